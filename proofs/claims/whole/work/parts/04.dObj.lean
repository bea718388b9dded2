theorem d_Obj_init_0 : decode M_Obj_init.2.1 0 = .ok (.return_, 1) := by decide +kernel
