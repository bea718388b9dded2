theorem gapp {h l : mHeap} {k : Nat} {x : mCell} (hk : h[k]? = some x) : (h ++ l)[k]? = some x := by
  rw [List.getElem?_append_left (List.getElem?_eq_some_iff.mp hk).1]
  exact hk
theorem s_Row_init {L : Nat} {xs : Nat → Int32} {Post : Option Value → mHeap → Prop} {h : mHeap} {k N : Nat} (hk : h[k]? = some (.inr (0, [.null, .int 0]))) (hN : N < 1000) (kk : ∀ a, a = h.length → Post none ((h ++ [cArr N (fun _ => 0)]).set k (cRow a []))) : mMet M_Row_init L xs (1, 20) 1 N [.ref k, .int (nI N)] h Post := by
  refine mMet_of rfl (Nat.le_of_ble_eq_true rfl) ?_
  refine mj_aload_n d_Row_init_0 rfl ?_
  refine mj_objInit d_Row_init_1 q_23 q_16 q_17 ⟨by decide, Nat.le_of_ble_eq_true rfl⟩ ?_
  refine mj_aload_n d_Row_init_4 rfl ?_
  refine mj_iconst d_Row_init_5 (nI 0) (by decide) ?_
  refine mj_put d_Row_init_6 fd_Row_9 ft_Row_1 hk (Nat.le_of_ble_eq_true rfl) rfl rfl ?_
  rw [show h.set k (.inr (0, List.set [.null, .int 0] 1 (.int (nI 0)))) = h from set_same hk]
  refine mj_aload_n d_Row_init_9 rfl ?_
  refine mj_iload_n d_Row_init_10 rfl ?_
  refine mj_newi N d_Row_init_11 q_31 (nI_nn (by omega)) (nI_clamp (by omega)) (by omega) (by decide) (by omega) ?_
  refine mj_putF (ci := 0) (k := 0) d_Row_init_13 rfl ⟨_, rfl, by decide, rfl, rfl, q_24⟩ ft_Row_0 (gapp hk) (Nat.le_of_ble_eq_true rfl) rfl rfl ?_
  refine mj_vret d_Row_init_16 rfl (by decide) (by omega) ?_
  exact kk _ rfl
theorem s_Tag_init {L : Nat} {xs : Nat → Int32} {Post : Option Value → mHeap → Prop} {h : mHeap} {k : Nat} (hk : h[k]? = some (.inr (1, [.null]))) (kk : ∀ a, a = h.length → Post none ((h ++ [cArr 32 (fun _ => 0)]).set k (.inr (1, [.ref a])))) : mMet M_Tag_init L xs (1, 20) 1 32 [.ref k] h Post := by
  refine mMet_of rfl (Nat.le_of_ble_eq_true rfl) ?_
  refine mj_aload_n d_Tag_init_0 rfl ?_
  refine mj_objInit d_Tag_init_1 q_37 q_16 q_17 ⟨by decide, Nat.le_of_ble_eq_true rfl⟩ ?_
  refine mj_aload_n d_Tag_init_4 rfl ?_
  refine mj_bipush d_Tag_init_5 (nI 32) (by decide) ?_
  refine mj_newi 32 d_Tag_init_7 q_31 (by decide) (by decide) (by decide) (by decide) (by decide) ?_
  refine mj_putF (ci := 1) (k := 0) d_Tag_init_9 rfl ⟨_, rfl, by decide, rfl, rfl, q_38⟩ ft_Tag_0 (gapp hk) (Nat.le_of_ble_eq_true rfl) rfl rfl ?_
  refine mj_vret d_Tag_init_12 rfl (by decide) (by decide) ?_
  exact kk _ rfl
theorem s_Fil_init {L : Nat} {xs : Nat → Int32} {Post : Option Value → mHeap → Prop} {c0 c1 c2 c3 c4 c5 c6 c7 c8 c9 c10 c11 : mCell} (kk : Post none [c0, c1, c2, c3, c4, c5, c6, c7, c8, c9, c10, c11, cFil, cArr 360 (fun _ => 0), cArr 12 (fun _ => 0), cArr 4 (fun _ => 0)]) : mMet M_Fil_init L xs (1, 20) 3 376 [.ref 12] [c0, c1, c2, c3, c4, c5, c6, c7, c8, c9, c10, c11, .inr (2, [.null, .null, .null])] Post := by
  refine mMet_of rfl (Nat.le_of_ble_eq_true rfl) ?_
  refine mj_aload_n d_Fil_init_0 rfl ?_
  refine mj_objInit d_Fil_init_1 q_55 q_16 q_17 ⟨by decide, Nat.le_of_ble_eq_true rfl⟩ ?_
  refine mj_aload_n d_Fil_init_4 rfl ?_
  refine mj_sipush d_Fil_init_5 (nI 360) (by decide) ?_
  refine mj_newi 360 d_Fil_init_8 q_31 (by decide) (by decide) (by decide) (by decide) (by decide) ?_
  try simp only [List.length_cons, List.length_nil, List.cons_append, List.nil_append, Nat.reduceAdd, Nat.zero_add, List.set_cons_succ, List.set_cons_zero]
  refine mj_putF (ci := 2) (k := 0) d_Fil_init_10 rfl ⟨_, rfl, by decide, rfl, rfl, q_56⟩ ft_Fil_0 rfl (Nat.le_of_ble_eq_true rfl) rfl rfl ?_
  try simp only [List.length_cons, List.length_nil, List.cons_append, List.nil_append, Nat.reduceAdd, Nat.zero_add, List.set_cons_succ, List.set_cons_zero]
  refine mj_aload_n d_Fil_init_13 rfl ?_
  refine mj_bipush d_Fil_init_14 (nI 12) (by decide) ?_
  refine mj_newi 12 d_Fil_init_16 q_31 (by decide) (by decide) (by decide) (by decide) (by decide) ?_
  try simp only [List.length_cons, List.length_nil, List.cons_append, List.nil_append, Nat.reduceAdd, Nat.zero_add, List.set_cons_succ, List.set_cons_zero]
  refine mj_putF (ci := 2) (k := 1) d_Fil_init_18 rfl ⟨_, rfl, by decide, rfl, rfl, q_57⟩ ft_Fil_1 rfl (Nat.le_of_ble_eq_true rfl) rfl rfl ?_
  try simp only [List.length_cons, List.length_nil, List.cons_append, List.nil_append, Nat.reduceAdd, Nat.zero_add, List.set_cons_succ, List.set_cons_zero]
  refine mj_aload_n d_Fil_init_21 rfl ?_
  refine mj_iconst d_Fil_init_22 (nI 4) (by decide) ?_
  refine mj_newi 4 d_Fil_init_23 q_31 (by decide) (by decide) (by decide) (by decide) (by decide) ?_
  try simp only [List.length_cons, List.length_nil, List.cons_append, List.nil_append, Nat.reduceAdd, Nat.zero_add, List.set_cons_succ, List.set_cons_zero]
  refine mj_putF (ci := 2) (k := 2) d_Fil_init_25 rfl ⟨_, rfl, by decide, rfl, rfl, q_58⟩ ft_Fil_2 rfl (Nat.le_of_ble_eq_true rfl) rfl rfl ?_
  try simp only [List.length_cons, List.length_nil, List.cons_append, List.nil_append, Nat.reduceAdd, Nat.zero_add, List.set_cons_succ, List.set_cons_zero]
  refine mj_vret d_Fil_init_28 rfl (by decide) (by decide) ?_
  exact kk
theorem s_Sea_init {L : Nat} {xs : Nat → Int32} {Post : Option Value → mHeap → Prop} {c0 c1 c2 c3 c4 c5 c6 c7 c8 c9 c10 c11 c12 c13 c14 c15 : mCell} (kk : ∀ frk fw ff fx ft, FA 176 (rkF (kbF 0 0)) frk → FA 16 (dbl (enc (rkF (kbF 0 0)) zero)) fw → FA 16 (dbl (dbl (enc (rkF (kbF 0 0)) zero))) ff → Post none [c0, c1, c2, c3, c4, c5, c6, c7, c8, c9, c10, c11, c12, c13, c14, c15, cSea, cArr 176 frk, cArr 16 fw, cArr 16 ff, cArr 16 fx, cArr 16 ft, cRow 23 [], cArr 16 (fun _ => 0)]) : mMet M_Sea_init L xs (4, 108) 7 258 [.ref 16] [c0, c1, c2, c3, c4, c5, c6, c7, c8, c9, c10, c11, c12, c13, c14, c15, .inr (3, [.null, .null, .null, .null, .null, .null])] Post := by
  refine mMet_of rfl (Nat.le_of_ble_eq_true rfl) ?_
  refine mj_aload_n d_Sea_init_0 rfl ?_
  refine mj_objInit d_Sea_init_1 q_71 q_16 q_17 ⟨by decide, Nat.le_of_ble_eq_true rfl⟩ ?_
  refine mj_aload_n d_Sea_init_4 rfl ?_
  refine mj_sipush d_Sea_init_5 (nI 176) (by decide) ?_
  refine mj_newi 176 d_Sea_init_8 q_31 (by decide) (by decide) (by decide) (by decide) (by decide) ?_
  try simp only [List.length_cons, List.length_nil, List.cons_append, List.nil_append, Nat.reduceAdd, Nat.zero_add, List.set_cons_succ, List.set_cons_zero]
  refine mj_putF (ci := 3) (k := 0) d_Sea_init_10 rfl ⟨_, rfl, by decide, rfl, rfl, q_112⟩ ft_Sea_0 rfl (Nat.le_of_ble_eq_true rfl) rfl rfl ?_
  try simp only [List.length_cons, List.length_nil, List.cons_append, List.nil_append, Nat.reduceAdd, Nat.zero_add, List.set_cons_succ, List.set_cons_zero]
  refine mj_aload_n d_Sea_init_13 rfl ?_
  refine mj_bipush d_Sea_init_14 (nI 16) (by decide) ?_
  refine mj_newi 16 d_Sea_init_16 q_31 (by decide) (by decide) (by decide) (by decide) (by decide) ?_
  try simp only [List.length_cons, List.length_nil, List.cons_append, List.nil_append, Nat.reduceAdd, Nat.zero_add, List.set_cons_succ, List.set_cons_zero]
  refine mj_putF (ci := 3) (k := 1) d_Sea_init_18 rfl ⟨_, rfl, by decide, rfl, rfl, q_113⟩ ft_Sea_1 rfl (Nat.le_of_ble_eq_true rfl) rfl rfl ?_
  try simp only [List.length_cons, List.length_nil, List.cons_append, List.nil_append, Nat.reduceAdd, Nat.zero_add, List.set_cons_succ, List.set_cons_zero]
  refine mj_aload_n d_Sea_init_21 rfl ?_
  refine mj_bipush d_Sea_init_22 (nI 16) (by decide) ?_
  refine mj_newi 16 d_Sea_init_24 q_31 (by decide) (by decide) (by decide) (by decide) (by decide) ?_
  try simp only [List.length_cons, List.length_nil, List.cons_append, List.nil_append, Nat.reduceAdd, Nat.zero_add, List.set_cons_succ, List.set_cons_zero]
  refine mj_putF (ci := 3) (k := 2) d_Sea_init_26 rfl ⟨_, rfl, by decide, rfl, rfl, q_114⟩ ft_Sea_2 rfl (Nat.le_of_ble_eq_true rfl) rfl rfl ?_
  try simp only [List.length_cons, List.length_nil, List.cons_append, List.nil_append, Nat.reduceAdd, Nat.zero_add, List.set_cons_succ, List.set_cons_zero]
  refine mj_aload_n d_Sea_init_29 rfl ?_
  refine mj_bipush d_Sea_init_30 (nI 16) (by decide) ?_
  refine mj_newi 16 d_Sea_init_32 q_31 (by decide) (by decide) (by decide) (by decide) (by decide) ?_
  try simp only [List.length_cons, List.length_nil, List.cons_append, List.nil_append, Nat.reduceAdd, Nat.zero_add, List.set_cons_succ, List.set_cons_zero]
  refine mj_putF (ci := 3) (k := 3) d_Sea_init_34 rfl ⟨_, rfl, by decide, rfl, rfl, q_115⟩ ft_Sea_3 rfl (Nat.le_of_ble_eq_true rfl) rfl rfl ?_
  try simp only [List.length_cons, List.length_nil, List.cons_append, List.nil_append, Nat.reduceAdd, Nat.zero_add, List.set_cons_succ, List.set_cons_zero]
  refine mj_aload_n d_Sea_init_37 rfl ?_
  refine mj_bipush d_Sea_init_38 (nI 16) (by decide) ?_
  refine mj_newi 16 d_Sea_init_40 q_31 (by decide) (by decide) (by decide) (by decide) (by decide) ?_
  try simp only [List.length_cons, List.length_nil, List.cons_append, List.nil_append, Nat.reduceAdd, Nat.zero_add, List.set_cons_succ, List.set_cons_zero]
  refine mj_putF (ci := 3) (k := 4) d_Sea_init_42 rfl ⟨_, rfl, by decide, rfl, rfl, q_116⟩ ft_Sea_4 rfl (Nat.le_of_ble_eq_true rfl) rfl rfl ?_
  try simp only [List.length_cons, List.length_nil, List.cons_append, List.nil_append, Nat.reduceAdd, Nat.zero_add, List.set_cons_succ, List.set_cons_zero]
  refine mj_aload_n d_Sea_init_45 rfl ?_
  refine mj_new (fs := [.null, .int 0]) d_Sea_init_46 (ci := 0) rfl q_72 q_19 q_2 (fun _ _ => by simp [mL, mF]) mdef_Row (by decide) (by decide) ?_
  try simp only [List.length_cons, List.length_nil, List.cons_append, List.nil_append, Nat.reduceAdd, Nat.zero_add, List.set_cons_succ, List.set_cons_zero]
  refine mj_dup d_Sea_init_49 rfl ?_
  refine mj_bipush d_Sea_init_50 (nI 16) (by decide) ?_
  refine mj_init (d' := (1, 20)) (mc := 1) (ms := 16) (As := [_]) d_Sea_init_52 rfl rfl cw_Row_init (Or.inl q_73) q_21 rfl rfl (mRoomB rfl) ?_
  refine s_Row_init (k := 22) (N := 16) rfl (by decide) (fun a ha => ?_)
  simp only [List.length_cons, List.length_nil, List.cons_append, List.nil_append, Nat.reduceAdd, Nat.zero_add, List.set_cons_succ, List.set_cons_zero] at ha ⊢
  subst ha
  refine mj_putF (ci := 3) (k := 5) d_Sea_init_55 rfl ⟨_, rfl, by decide, rfl, rfl, q_117⟩ ft_Sea_5 rfl (Nat.le_of_ble_eq_true rfl) rfl rfl ?_
  try simp only [List.length_cons, List.length_nil, List.cons_append, List.nil_append, Nat.reduceAdd, Nat.zero_add, List.set_cons_succ, List.set_cons_zero]
  refine mj_aload_n d_Sea_init_58 rfl ?_
  refine mj_lconst d_Sea_init_59 0 (by decide) ?_
  refine mj_lconst d_Sea_init_60 0 (by decide) ?_
  refine mj_virtual (d' := (3, 83)) (mc := 0) (ms := 0) (As := [_, _]) d_Sea_init_61 cw_Sea_takeKey q_74 q_75 q_76 (ci := 3) rfl rfl rfl rfl (mRoomB rfl) ?_
  refine s_Sea_takeKey rfl rfl rfl rfl rfl rfl (fun frk f0 t f fw ff h1 h2 h3 => ?_)
  unfold sP
  try simp only [List.length_cons, List.length_nil, List.cons_append, List.nil_append, Nat.reduceAdd, Nat.zero_add, List.set_cons_succ, List.set_cons_zero]
  refine mj_vret d_Sea_init_64 rfl (by decide) (by decide) ?_
  exact kk frk fw ff f t h1 h2 h3
def nmF (v : Int32) : List Nat := [160, 0, 0, 0] ++ beL v.toInt64 3
theorem s_Crd_init {L : Nat} {xs : Nat → Int32} {Post : Option Value → mHeap → Prop} {c0 c1 c2 c3 c4 c5 c6 c7 c8 : mCell} {v : Int32} (kk : ∀ frk fw ff fx ft f2, FA 176 (rkF (kbF 0 0)) frk → FA 16 (dbl (enc (rkF (kbF 0 0)) zero)) fw → FA 16 (dbl (dbl (enc (rkF (kbF 0 0)) zero))) ff → Rf (nmF v) f2 → Post none [c0, c1, c2, c3, c4, c5, c6, c7, c8, cCrd 0 0 3 0 0 0 0, cRow 11 (nmF v), cArr 7 f2, cFil, cArr 360 (fun _ => 0), cArr 12 (fun _ => 0), cArr 4 (fun _ => 0), cSea, cArr 176 frk, cArr 16 fw, cArr 16 ff, cArr 16 fx, cArr 16 ft, cRow 23 [], cArr 16 (fun _ => 0)]) : mMet M_Crd_init L xs (5, 128) 14 652 [.ref 9, .int v] [c0, c1, c2, c3, c4, c5, c6, c7, c8, .inr (4, [.null, .null, .null, .int 0, .int 0, .int 0, .int 0, .int 0, .long 0, .int 0])] Post := by
  refine mMet_of rfl (Nat.le_of_ble_eq_true rfl) ?_
  refine mj_aload_n d_Crd_init_0 rfl ?_
  refine mj_objInit d_Crd_init_1 q_47 q_16 q_17 ⟨by decide, Nat.le_of_ble_eq_true rfl⟩ ?_
  refine mj_aload_n d_Crd_init_4 rfl ?_
  refine mj_new (fs := [.null, .int 0]) d_Crd_init_5 (ci := 0) rfl q_48 q_19 q_2 (fun _ _ => by simp [mL, mF]) mdef_Row (by decide) (by decide) ?_
  try simp only [List.length_cons, List.length_nil, List.cons_append, List.nil_append, Nat.reduceAdd, Nat.zero_add, List.set_cons_succ, List.set_cons_zero]
  refine mj_dup d_Crd_init_8 rfl ?_
  refine mj_bipush d_Crd_init_9 (nI 7) (by decide) ?_
  refine mj_init (d' := (1, 20)) (mc := 1) (ms := 7) (As := [_]) d_Crd_init_11 rfl rfl cw_Row_init (Or.inl q_49) q_21 rfl rfl (mRoomB rfl) ?_
  refine s_Row_init (k := 10) (N := 7) rfl (by decide) (fun a ha => ?_)
  simp only [List.length_cons, List.length_nil, List.cons_append, List.nil_append, Nat.reduceAdd, Nat.zero_add, List.set_cons_succ, List.set_cons_zero] at ha ⊢
  subst ha
  refine mj_putF (ci := 4) (k := 0) d_Crd_init_14 rfl ⟨_, rfl, by decide, rfl, rfl, q_140⟩ ft_Crd_0 rfl (Nat.le_of_ble_eq_true rfl) rfl rfl ?_
  try simp only [List.length_cons, List.length_nil, List.cons_append, List.nil_append, Nat.reduceAdd, Nat.zero_add, List.set_cons_succ, List.set_cons_zero]
  refine mj_aload_n d_Crd_init_17 rfl ?_
  refine mj_new (fs := [.null, .null, .null]) d_Crd_init_18 (ci := 2) rfl q_50 q_51 q_5 (fun _ _ => by simp [mL, mF]) mdef_Fil (by decide) (by decide) ?_
  try simp only [List.length_cons, List.length_nil, List.cons_append, List.nil_append, Nat.reduceAdd, Nat.zero_add, List.set_cons_succ, List.set_cons_zero]
  refine mj_dup d_Crd_init_21 rfl ?_
  refine mj_init (d' := (1, 20)) (mc := 3) (ms := 376) (As := []) d_Crd_init_22 rfl rfl cw_Fil_init (Or.inr ⟨_, q_52⟩) q_53 rfl rfl (mRoomB rfl) ?_
  refine s_Fil_init ?_
  refine mj_putF (ci := 4) (k := 1) d_Crd_init_25 rfl ⟨_, rfl, by decide, rfl, rfl, q_142⟩ ft_Crd_1 rfl (Nat.le_of_ble_eq_true rfl) rfl rfl ?_
  try simp only [List.length_cons, List.length_nil, List.cons_append, List.nil_append, Nat.reduceAdd, Nat.zero_add, List.set_cons_succ, List.set_cons_zero]
  refine mj_aload_n d_Crd_init_28 rfl ?_
  refine mj_new (fs := [.null, .null, .null, .null, .null, .null]) d_Crd_init_29 (ci := 3) rfl q_66 q_67 q_6 (fun _ _ => by simp [mL, mF]) mdef_Sea (by decide) (by decide) ?_
  try simp only [List.length_cons, List.length_nil, List.cons_append, List.nil_append, Nat.reduceAdd, Nat.zero_add, List.set_cons_succ, List.set_cons_zero]
  refine mj_dup d_Crd_init_32 rfl ?_
  refine mj_init (d' := (4, 108)) (mc := 7) (ms := 258) (As := []) d_Crd_init_33 rfl rfl cw_Sea_init (Or.inl q_68) q_69 rfl rfl (mRoomB rfl) ?_
  refine s_Sea_init (fun frk fw ff fx ft h1 h2 h3 => ?_)
  refine mj_putF (ci := 4) (k := 2) d_Crd_init_36 rfl ⟨_, rfl, by decide, rfl, rfl, q_144⟩ ft_Crd_2 rfl (Nat.le_of_ble_eq_true rfl) rfl rfl ?_
  try simp only [List.length_cons, List.length_nil, List.cons_append, List.nil_append, Nat.reduceAdd, Nat.zero_add, List.set_cons_succ, List.set_cons_zero]
  refine mj_aload_n d_Crd_init_39 rfl ?_
  refine mj_iconst d_Crd_init_40 (nI 0) (by decide) ?_
  refine mj_put d_Crd_init_41 fd_Crd_34 ft_Crd_3 rfl (Nat.le_of_ble_eq_true rfl) rfl rfl ?_
  try simp only [List.length_cons, List.length_nil, List.cons_append, List.nil_append, Nat.reduceAdd, Nat.zero_add, List.set_cons_succ, List.set_cons_zero]
  refine mj_aload_n d_Crd_init_44 rfl ?_
  refine mj_iconst d_Crd_init_45 (nI 0) (by decide) ?_
  refine mj_put d_Crd_init_46 fd_Crd_38 ft_Crd_4 rfl (Nat.le_of_ble_eq_true rfl) rfl rfl ?_
  try simp only [List.length_cons, List.length_nil, List.cons_append, List.nil_append, Nat.reduceAdd, Nat.zero_add, List.set_cons_succ, List.set_cons_zero]
  refine mj_aload_n d_Crd_init_49 rfl ?_
  refine mj_iconst d_Crd_init_50 (nI 3) (by decide) ?_
  refine mj_put d_Crd_init_51 fd_Crd_41 ft_Crd_5 rfl (Nat.le_of_ble_eq_true rfl) rfl rfl ?_
  try simp only [List.length_cons, List.length_nil, List.cons_append, List.nil_append, Nat.reduceAdd, Nat.zero_add, List.set_cons_succ, List.set_cons_zero]
  refine mj_aload_n d_Crd_init_54 rfl ?_
  refine mj_iconst d_Crd_init_55 (nI 0) (by decide) ?_
  refine mj_put d_Crd_init_56 fd_Crd_44 ft_Crd_6 rfl (Nat.le_of_ble_eq_true rfl) rfl rfl ?_
  try simp only [List.length_cons, List.length_nil, List.cons_append, List.nil_append, Nat.reduceAdd, Nat.zero_add, List.set_cons_succ, List.set_cons_zero]
  refine mj_aload_n d_Crd_init_59 rfl ?_
  refine mj_iconst d_Crd_init_60 (nI 0) (by decide) ?_
  refine mj_put d_Crd_init_61 fd_Crd_47 ft_Crd_7 rfl (Nat.le_of_ble_eq_true rfl) rfl rfl ?_
  try simp only [List.length_cons, List.length_nil, List.cons_append, List.nil_append, Nat.reduceAdd, Nat.zero_add, List.set_cons_succ, List.set_cons_zero]
  refine mj_aload_n d_Crd_init_64 rfl ?_
  refine mj_lconst d_Crd_init_65 0 (by decide) ?_
  refine mj_put d_Crd_init_66 fd_Crd_50 ft_Crd_8 rfl (Nat.le_of_ble_eq_true rfl) rfl rfl ?_
  try simp only [List.length_cons, List.length_nil, List.cons_append, List.nil_append, Nat.reduceAdd, Nat.zero_add, List.set_cons_succ, List.set_cons_zero]
  refine mj_aload_n d_Crd_init_69 rfl ?_
  refine mj_iconst d_Crd_init_70 (nI 0) (by decide) ?_
  refine mj_put d_Crd_init_71 fd_Crd_54 ft_Crd_9 rfl (Nat.le_of_ble_eq_true rfl) rfl rfl ?_
  try simp only [List.length_cons, List.length_nil, List.cons_append, List.nil_append, Nat.reduceAdd, Nat.zero_add, List.set_cons_succ, List.set_cons_zero]
  refine mj_aload_n d_Crd_init_74 rfl ?_
  refine mj_get d_Crd_init_75 fd_Crd_14 rfl rfl ?_
  refine mj_ldc2 d_Crd_init_78 2684354560 q_131 ?_
  refine mj_iconst d_Crd_init_81 (nI 4) (by decide) ?_
  refine mj_virtual (d' := (1, 21)) (mc := 0) (ms := 0) (As := [_, _]) d_Crd_init_82 cw_Row_addNumber q_132 q_133 q_134 (ci := 0) rfl rfl rfl rfl (mRoomB rfl) ?_
  refine s_Row_addNumber (k := 10) (l := []) ⟨rfl, rfl, (fun j hj => by cases hj), by decide, by decide, by decide⟩ (by decide) (by decide) (fun f1 hf1 => ?_)
  unfold rPut
  try simp only [List.length_cons, List.length_nil, List.cons_append, List.nil_append, Nat.reduceAdd, Nat.zero_add, List.set_cons_succ, List.set_cons_zero]
  refine mj_aload_n d_Crd_init_85 rfl ?_
  refine mj_get d_Crd_init_86 fd_Crd_14 rfl rfl ?_
  refine mj_iload_n d_Crd_init_89 rfl ?_
  refine mj_i2l d_Crd_init_90 ?_
  refine mj_iconst d_Crd_init_91 (nI 3) (by decide) ?_
  refine mj_virtual (d' := (1, 21)) (mc := 0) (ms := 0) (As := [_, _]) d_Crd_init_92 cw_Row_addNumber q_132 q_133 q_134 (ci := 0) rfl rfl rfl rfl (mRoomB rfl) ?_
  refine s_Row_addNumber (k := 10) (l := [] ++ beL 2684354560 4) ⟨rfl, rfl, hf1, by decide, by decide, by decide⟩ (by decide) (by decide) (fun f2 hf2 => ?_)
  rw [show [] ++ beL 2684354560 4 ++ beL v.toInt64 3 = nmF v by unfold nmF; rw [show beL 2684354560 4 = [160, 0, 0, 0] by decide]; rfl] at hf2 ⊢
  unfold rPut
  try simp only [List.length_cons, List.length_nil, List.cons_append, List.nil_append, Nat.reduceAdd, Nat.zero_add, List.set_cons_succ, List.set_cons_zero]
  refine mj_vret d_Crd_init_95 rfl (by decide) (by decide) ?_
  exact kk frk fw ff fx ft f2 h1 h2 h3 hf2
theorem s_Pur_init {L : Nat} {xs : Nat → Int32} {Post : Option Value → mHeap → Prop} {v : Int32} (kk : ∀ h', CW [] [] (nmF v) (fun _ => 0) (fun _ => []) (rkF (kbF 0 0)) 0 0 3 0 0 0 0 [] h' → Post none h') : mMet M_Pur_init L xs (6, 149) 23 805 [.ref 0, .int v] [.inr (5, [.null, .null, .null, .null, .null])] Post := by
  refine mMet_of rfl (Nat.le_of_ble_eq_true rfl) ?_
  refine mj_aload_n d_Pur_init_0 rfl ?_
  refine mj_objInit d_Pur_init_1 q_15 q_16 q_17 ⟨by decide, Nat.le_of_ble_eq_true rfl⟩ ?_
  refine mj_aload_n d_Pur_init_4 rfl ?_
  refine mj_new (fs := [.null, .int 0]) d_Pur_init_5 (ci := 0) rfl q_18 q_19 q_2 (fun _ _ => by simp [mL, mF]) mdef_Row (by decide) (by decide) ?_
  try simp only [List.length_cons, List.length_nil, List.cons_append, List.nil_append, Nat.reduceAdd, Nat.zero_add, List.set_cons_succ, List.set_cons_zero]
  refine mj_dup d_Pur_init_8 rfl ?_
  refine mj_bipush d_Pur_init_9 (nI 40) (by decide) ?_
  refine mj_init (d' := (1, 20)) (mc := 1) (ms := 40) (As := [_]) d_Pur_init_11 rfl rfl cw_Row_init (Or.inl q_20) q_21 rfl rfl (mRoomB rfl) ?_
  refine s_Row_init (k := 1) (N := 40) rfl (by decide) (fun a ha => ?_)
  simp only [List.length_cons, List.length_nil, List.cons_append, List.nil_append, Nat.reduceAdd, Nat.zero_add, List.set_cons_succ, List.set_cons_zero] at ha ⊢
  subst ha
  refine mj_putF (ci := 5) (k := 0) d_Pur_init_14 rfl ⟨_, rfl, by decide, rfl, rfl, q_178⟩ ft_Pur_0 rfl (Nat.le_of_ble_eq_true rfl) rfl rfl ?_
  try simp only [List.length_cons, List.length_nil, List.cons_append, List.nil_append, Nat.reduceAdd, Nat.zero_add, List.set_cons_succ, List.set_cons_zero]
  refine mj_aload_n d_Pur_init_17 rfl ?_
  refine mj_new (fs := [.null, .int 0]) d_Pur_init_18 (ci := 0) rfl q_18 q_19 q_2 (fun _ _ => by simp [mL, mF]) mdef_Row (by decide) (by decide) ?_
  try simp only [List.length_cons, List.length_nil, List.cons_append, List.nil_append, Nat.reduceAdd, Nat.zero_add, List.set_cons_succ, List.set_cons_zero]
  refine mj_dup d_Pur_init_21 rfl ?_
  refine mj_bipush d_Pur_init_22 (nI 32) (by decide) ?_
  refine mj_init (d' := (1, 20)) (mc := 1) (ms := 32) (As := [_]) d_Pur_init_24 rfl rfl cw_Row_init (Or.inl q_20) q_21 rfl rfl (mRoomB rfl) ?_
  refine s_Row_init (k := 3) (N := 32) rfl (by decide) (fun a ha => ?_)
  simp only [List.length_cons, List.length_nil, List.cons_append, List.nil_append, Nat.reduceAdd, Nat.zero_add, List.set_cons_succ, List.set_cons_zero] at ha ⊢
  subst ha
  refine mj_putF (ci := 5) (k := 1) d_Pur_init_27 rfl ⟨_, rfl, by decide, rfl, rfl, q_179⟩ ft_Pur_1 rfl (Nat.le_of_ble_eq_true rfl) rfl rfl ?_
  try simp only [List.length_cons, List.length_nil, List.cons_append, List.nil_append, Nat.reduceAdd, Nat.zero_add, List.set_cons_succ, List.set_cons_zero]
  refine mj_aload_n d_Pur_init_30 rfl ?_
  refine mj_new (fs := [.null, .int 0]) d_Pur_init_31 (ci := 0) rfl q_18 q_19 q_2 (fun _ _ => by simp [mL, mF]) mdef_Row (by decide) (by decide) ?_
  try simp only [List.length_cons, List.length_nil, List.cons_append, List.nil_append, Nat.reduceAdd, Nat.zero_add, List.set_cons_succ, List.set_cons_zero]
  refine mj_dup d_Pur_init_34 rfl ?_
  refine mj_bipush d_Pur_init_35 (nI 32) (by decide) ?_
  refine mj_init (d' := (1, 20)) (mc := 1) (ms := 32) (As := [_]) d_Pur_init_37 rfl rfl cw_Row_init (Or.inl q_20) q_21 rfl rfl (mRoomB rfl) ?_
  refine s_Row_init (k := 5) (N := 32) rfl (by decide) (fun a ha => ?_)
  simp only [List.length_cons, List.length_nil, List.cons_append, List.nil_append, Nat.reduceAdd, Nat.zero_add, List.set_cons_succ, List.set_cons_zero] at ha ⊢
  subst ha
  refine mj_putF (ci := 5) (k := 2) d_Pur_init_40 rfl ⟨_, rfl, by decide, rfl, rfl, q_180⟩ ft_Pur_2 rfl (Nat.le_of_ble_eq_true rfl) rfl rfl ?_
  try simp only [List.length_cons, List.length_nil, List.cons_append, List.nil_append, Nat.reduceAdd, Nat.zero_add, List.set_cons_succ, List.set_cons_zero]
  refine mj_aload_n d_Pur_init_43 rfl ?_
  refine mj_new (fs := [.null]) d_Pur_init_44 (ci := 1) rfl q_32 q_33 q_3 (fun _ _ => by simp [mL, mF]) mdef_Tag (by decide) (by decide) ?_
  try simp only [List.length_cons, List.length_nil, List.cons_append, List.nil_append, Nat.reduceAdd, Nat.zero_add, List.set_cons_succ, List.set_cons_zero]
  refine mj_dup d_Pur_init_47 rfl ?_
  refine mj_init (d' := (1, 20)) (mc := 1) (ms := 32) (As := []) d_Pur_init_48 rfl rfl cw_Tag_init (Or.inr ⟨_, q_34⟩) q_35 rfl rfl (mRoomB rfl) ?_
  refine s_Tag_init (k := 7) rfl (fun a ha => ?_)
  simp only [List.length_cons, List.length_nil, List.cons_append, List.nil_append, Nat.reduceAdd, Nat.zero_add, List.set_cons_succ, List.set_cons_zero] at ha ⊢
  subst ha
  refine mj_putF (ci := 5) (k := 3) d_Pur_init_51 rfl ⟨_, rfl, by decide, rfl, rfl, q_181⟩ ft_Pur_3 rfl (Nat.le_of_ble_eq_true rfl) rfl rfl ?_
  try simp only [List.length_cons, List.length_nil, List.cons_append, List.nil_append, Nat.reduceAdd, Nat.zero_add, List.set_cons_succ, List.set_cons_zero]
  refine mj_aload_n d_Pur_init_54 rfl ?_
  refine mj_new (fs := [.null, .null, .null, .int 0, .int 0, .int 0, .int 0, .int 0, .long 0, .int 0]) d_Pur_init_55 (ci := 4) rfl q_42 q_43 q_4 (fun _ _ => by simp [mL, mF]) mdef_Crd (by decide) (by decide) ?_
  try simp only [List.length_cons, List.length_nil, List.cons_append, List.nil_append, Nat.reduceAdd, Nat.zero_add, List.set_cons_succ, List.set_cons_zero]
  refine mj_dup d_Pur_init_58 rfl ?_
  refine mj_iload_n d_Pur_init_59 rfl ?_
  refine mj_init (d' := (5, 128)) (mc := 14) (ms := 652) (As := [_]) d_Pur_init_60 rfl rfl cw_Crd_init (Or.inl q_44) q_45 rfl rfl (mRoomB rfl) ?_
  refine s_Crd_init (fun frk fw ff fx ft f2 h1 h2 h3 h4 => ?_)
  refine mj_putF (ci := 5) (k := 4) d_Pur_init_63 rfl ⟨_, rfl, by decide, rfl, rfl, q_182⟩ ft_Pur_4 rfl (Nat.le_of_ble_eq_true rfl) rfl rfl ?_
  try simp only [List.length_cons, List.length_nil, List.cons_append, List.nil_append, Nat.reduceAdd, Nat.zero_add, List.set_cons_succ, List.set_cons_zero]
  refine mj_vret d_Pur_init_66 rfl (by decide) (by decide) ?_
  refine kk _ ⟨[], [], (fun _ => 0), (fun _ => 0), (fun _ => 0), f2, (fun _ => 0), (fun _ => 0), (fun _ => 0), (fun _ => 0), (fun _ => 0), frk, fw, ff, fx, ft, ⟨fun j hj => ?_, fun j hj => ?_, ⟨fun j hj => ?_, by decide⟩, h4, ⟨fun j hj => ?_, by decide⟩, ⟨fun j hj => rfl, fun f hf => Nat.zero_le _, fun f j hf hj => ?_⟩, h1, h2, h3⟩, rfl⟩
  · cases hj
  · cases hj
  · cases hj
  · cases hj
  · cases hj
theorem nmF_ok (v : Int32) : Bb (nmF v) ∧ (nmF v).length = 7 := by
  unfold nmF
  exact ⟨Bb_app (by decide) (beL_lt _ _), by rw [List.length_append, beL_len]; rfl⟩
theorem AI_0 (v : Int32) : AI [] [] (nmF v) (fun _ => 0) (fun _ => []) (rkF (kbF 0 0)) 0 0 3 0 0 0 0 := ⟨⟨Bb_nil, by decide⟩, ⟨Bb_nil, by decide⟩, nmF_ok v, (fun f hf => ⟨Nat.zero_le _, fun j hj => by cases hj⟩), (fun j hj => rkF_lt (kbF_lt 0 0) j hj), by decide, by decide, by decide, by decide, by decide, by decide, by decide⟩
