theorem mRoomB {d d' : Nat × Nat} {J' : mM} {st : List Value} {cn sn mc ms MC MS : Nat} (hb : (Nat.ble (d'.1 + 1) d.1 && (Nat.ble (8 + (J'.2.2.1 + 11) + d'.2) d.2 && (Nat.ble ((st.map fun v => v.category).sum) 8 && (Nat.ble (cn + mc) MC && Nat.ble (sn + ms) MS)))) = true) : mRoom d d' J' st cn sn mc ms MC MS := by
  simp only [Bool.and_eq_true, Nat.ble_eq] at hb
  exact ⟨hb.1, hb.2.1, hb.2.2.1, hb.2.2.2.1, hb.2.2.2.2⟩
theorem mdef0_Row : ∀ j, j < 2 → defaultValue (t_Row j) = vp_V [.null, .int 0] j := by decide +kernel
theorem mdef_Row : ∀ j, j < 2 → ∀ ty, parseFieldDescriptor (T_Row j).2.2.1 = some ty → defaultValue ty = vp_V [.null, .int 0] j := by
  intro j hj ty h
  rw [t_Row_ok j hj] at h
  cases h
  exact mdef0_Row j hj
theorem mdef0_Tag : ∀ j, j < 1 → defaultValue (t_Tag j) = vp_V [.null] j := by decide +kernel
theorem mdef_Tag : ∀ j, j < 1 → ∀ ty, parseFieldDescriptor (T_Tag j).2.2.1 = some ty → defaultValue ty = vp_V [.null] j := by
  intro j hj ty h
  rw [t_Tag_ok j hj] at h
  cases h
  exact mdef0_Tag j hj
theorem mdef0_Fil : ∀ j, j < 3 → defaultValue (t_Fil j) = vp_V [.null, .null, .null] j := by decide +kernel
theorem mdef_Fil : ∀ j, j < 3 → ∀ ty, parseFieldDescriptor (T_Fil j).2.2.1 = some ty → defaultValue ty = vp_V [.null, .null, .null] j := by
  intro j hj ty h
  rw [t_Fil_ok j hj] at h
  cases h
  exact mdef0_Fil j hj
theorem mdef0_Sea : ∀ j, j < 6 → defaultValue (t_Sea j) = vp_V [.null, .null, .null, .null, .null, .null] j := by decide +kernel
theorem mdef_Sea : ∀ j, j < 6 → ∀ ty, parseFieldDescriptor (T_Sea j).2.2.1 = some ty → defaultValue ty = vp_V [.null, .null, .null, .null, .null, .null] j := by
  intro j hj ty h
  rw [t_Sea_ok j hj] at h
  cases h
  exact mdef0_Sea j hj
theorem mdef0_Crd : ∀ j, j < 10 → defaultValue (t_Crd j) = vp_V [.null, .null, .null, .int 0, .int 0, .int 0, .int 0, .int 0, .long 0, .int 0] j := by decide +kernel
theorem mdef_Crd : ∀ j, j < 10 → ∀ ty, parseFieldDescriptor (T_Crd j).2.2.1 = some ty → defaultValue ty = vp_V [.null, .null, .null, .int 0, .int 0, .int 0, .int 0, .int 0, .long 0, .int 0] j := by
  intro j hj ty h
  rw [t_Crd_ok j hj] at h
  cases h
  exact mdef0_Crd j hj
theorem mdef0_Pur : ∀ j, j < 5 → defaultValue (t_Pur j) = vp_V [.null, .null, .null, .null, .null] j := by decide +kernel
theorem mdef_Pur : ∀ j, j < 5 → ∀ ty, parseFieldDescriptor (T_Pur j).2.2.1 = some ty → defaultValue ty = vp_V [.null, .null, .null, .null, .null] j := by
  intro j hj ty h
  rw [t_Pur_ok j hj] at h
  cases h
  exact mdef0_Pur j hj
theorem mdef0_Mod : ∀ j, j < 25 → defaultValue (t_Mod j) = vp_V [.null, .null, .null, .null, .null, .null, .int 0, .int 0, .int 0, .int 0, .long 0, .int 0, .int 0, .null, .int 0, .null, .null, .null, .null, .null, .null, .null, .null, .null, .null] j := by decide +kernel
theorem mdef_Mod : ∀ j, j < 25 → ∀ ty, parseFieldDescriptor (T_Mod j).2.2.1 = some ty → defaultValue ty = vp_V [.null, .null, .null, .null, .null, .null, .int 0, .int 0, .int 0, .int 0, .long 0, .int 0, .int 0, .null, .int 0, .null, .null, .null, .null, .null, .null, .null, .null, .null, .null] j := by
  intro j hj ty h
  rw [t_Mod_ok j hj] at h
  cases h
  exact mdef0_Mod j hj
/-- a walk may be cut: the goal at a place, for every heap and locals that fit -/
theorem mGo.mono {J : mM} {L : Nat} {xs : Nat → Int32} {d : Nat × Nat} {MC MS : Nat} {Post Post' : Option Value → mHeap → Prop} {cn sn pc : Nat} {lv : List (Option Value)} {st : List Value} {h : mHeap} (hm : ∀ r h', Post r h' → Post' r h') (k : mGo J L xs d MC MS Post cn sn pc lv st h) : mGo J L xs d MC MS Post' cn sn pc lv st h := by
  intro p l e R s m args below meth c D ro A al0 Q C hh
  exact k p l e R s m args below meth c D ro A al0 Q C (fun pc ls H locs al ws r rC h' a1 a2 a3 a4 a5 => hh pc ls H locs al ws r rC h' a1 a2 a3 a4 (hm r h' a5))

