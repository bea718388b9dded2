theorem mRoomB {d d' : Nat × Nat} {J' : mM} {st : List Value} {cn sn mc ms MC MS : Nat} (hb : (Nat.ble (d'.1 + 1) d.1 && (Nat.ble (8 + (J'.2.2.1 + 11) + d'.2) d.2 && (Nat.ble ((st.map fun v => v.category).sum) 8 && (Nat.ble (cn + mc) MC && Nat.ble (sn + ms) MS)))) = true) : mRoom d d' J' st cn sn mc ms MC MS := by
  simp only [Bool.and_eq_true, Nat.ble_eq] at hb
  exact ⟨hb.1, hb.2.1, hb.2.2.1, hb.2.2.2.1, hb.2.2.2.2⟩
theorem mdef0_Row : ∀ j, j < 2 → defaultValue (t_Row j) = vp_V [.null, .int 0] j := by decide +kernel
theorem mdef_Row : ∀ j, j < 2 → ∀ ty, parseFieldDescriptor (T_Row j).2.2.1 = some ty → defaultValue ty = vp_V [.null, .int 0] j := by
  intro j hj ty h
  rw [t_Row_ok j hj] at h
  cases h
  exact mdef0_Row j hj
theorem mdef0_Tag : ∀ j, j < 1 → defaultValue (t_Tag j) = vp_V [.null] j := by decide +kernel
theorem mdef_Tag : ∀ j, j < 1 → ∀ ty, parseFieldDescriptor (T_Tag j).2.2.1 = some ty → defaultValue ty = vp_V [.null] j := by
  intro j hj ty h
  rw [t_Tag_ok j hj] at h
  cases h
  exact mdef0_Tag j hj
theorem mdef0_Fil : ∀ j, j < 3 → defaultValue (t_Fil j) = vp_V [.null, .null, .null] j := by decide +kernel
theorem mdef_Fil : ∀ j, j < 3 → ∀ ty, parseFieldDescriptor (T_Fil j).2.2.1 = some ty → defaultValue ty = vp_V [.null, .null, .null] j := by
  intro j hj ty h
  rw [t_Fil_ok j hj] at h
  cases h
  exact mdef0_Fil j hj
theorem mdef0_Sea : ∀ j, j < 6 → defaultValue (t_Sea j) = vp_V [.null, .null, .null, .null, .null, .null] j := by decide +kernel
theorem mdef_Sea : ∀ j, j < 6 → ∀ ty, parseFieldDescriptor (T_Sea j).2.2.1 = some ty → defaultValue ty = vp_V [.null, .null, .null, .null, .null, .null] j := by
  intro j hj ty h
  rw [t_Sea_ok j hj] at h
  cases h
  exact mdef0_Sea j hj
theorem mdef0_Crd : ∀ j, j < 10 → defaultValue (t_Crd j) = vp_V [.null, .null, .null, .int 0, .int 0, .int 0, .int 0, .int 0, .long 0, .int 0] j := by decide +kernel
theorem mdef_Crd : ∀ j, j < 10 → ∀ ty, parseFieldDescriptor (T_Crd j).2.2.1 = some ty → defaultValue ty = vp_V [.null, .null, .null, .int 0, .int 0, .int 0, .int 0, .int 0, .long 0, .int 0] j := by
  intro j hj ty h
  rw [t_Crd_ok j hj] at h
  cases h
  exact mdef0_Crd j hj
theorem mdef0_Pur : ∀ j, j < 5 → defaultValue (t_Pur j) = vp_V [.null, .null, .null, .null, .null] j := by decide +kernel
theorem mdef_Pur : ∀ j, j < 5 → ∀ ty, parseFieldDescriptor (T_Pur j).2.2.1 = some ty → defaultValue ty = vp_V [.null, .null, .null, .null, .null] j := by
  intro j hj ty h
  rw [t_Pur_ok j hj] at h
  cases h
  exact mdef0_Pur j hj
theorem mdef0_Mod : ∀ j, j < 25 → defaultValue (t_Mod j) = vp_V [.null, .null, .null, .null, .null, .null, .int 0, .int 0, .int 0, .int 0, .long 0, .int 0, .int 0, .null, .int 0, .null, .null, .null, .null, .null, .null, .null, .null, .null, .null] j := by decide +kernel
theorem mdef_Mod : ∀ j, j < 25 → ∀ ty, parseFieldDescriptor (T_Mod j).2.2.1 = some ty → defaultValue ty = vp_V [.null, .null, .null, .null, .null, .null, .int 0, .int 0, .int 0, .int 0, .long 0, .int 0, .int 0, .null, .int 0, .null, .null, .null, .null, .null, .null, .null, .null, .null, .null] j := by
  intro j hj ty h
  rw [t_Mod_ok j hj] at h
  cases h
  exact mdef0_Mod j hj
/-- a walk may be cut: the goal at a place, for every heap and locals that fit -/
theorem mGo.mono {J : mM} {L : Nat} {xs : Nat → Int32} {d : Nat × Nat} {MC MS : Nat} {Post Post' : Option Value → mHeap → Prop} {cn sn pc : Nat} {lv : List (Option Value)} {st : List Value} {h : mHeap} (hm : ∀ r h', Post r h' → Post' r h') (k : mGo J L xs d MC MS Post cn sn pc lv st h) : mGo J L xs d MC MS Post' cn sn pc lv st h := by
  intro p l e R s m args below meth c D ro A al0 Q C hh
  exact k p l e R s m args below meth c D ro A al0 Q C (fun pc ls H locs al ws r rC h' a1 a2 a3 a4 a5 => hh pc ls H locs al ws r rC h' a1 a2 a3 a4 (hm r h' a5))

section MJ4
variable {J : mM} {L : Nat} {xs : Nat → Int32} {d : Nat × Nat} {MC MS : Nat} {Post : Option Value → mHeap → Prop} {cn sn pc : Nat} {lv : List (Option Value)} {st : List Value} {h : mHeap}
theorem mj_ialdN {a n j : Nat} {f : Nat → Int32} (hd : decode J.2.1 pc = .ok (.iaload, 1)) (hh : h[a]? = some (.inl (.int, n, .inl f))) (hj : j < n ∧ n < 1000) (kk : mGo J L xs d MC MS Post cn sn (pc + 1) lv (.int (f j) :: st) h) : mGo J L xs d MC MS Post cn sn pc lv (.int (nI j) :: .ref a :: st) h :=
  mj_iald hd hh (vp_in_nI hj.1 (by omega)) (by rw [nI_clamp (by omega)]; exact kk)
theorem mj_oaldN {a n j : Nat} {f : Nat → Int32} (hd : decode J.2.1 pc = .ok (.iaload, 1)) (hh : mRoA L xs a = some (n, f)) (hj : j < n ∧ n < 10000) (kk : mGo J L xs d MC MS Post cn sn (pc + 1) lv (.int (f j) :: st) h) : mGo J L xs d MC MS Post cn sn pc lv (.int (nI j) :: .retAddr a :: st) h :=
  mj_oald hd hh (vp_in_nI hj.1 (by omega)) (by rw [nI_clamp (by omega)]; exact kk)
theorem mj_iastN {a n j : Nat} {f : Nat → Int32} {x : Int32} (hd : decode J.2.1 pc = .ok (.iastore, 1)) (hh : h[a]? = some (.inl (.int, n, .inl f))) (hj : j < n ∧ n < 1000) (kk : mGo J L xs d MC MS Post cn sn (pc + 1) lv st (h.set a (.inl (.int, n, .inl (upd f j x))))) : mGo J L xs d MC MS Post cn sn pc lv (.int x :: .int (nI j) :: .ref a :: st) h :=
  mj_iast hd hh (vp_in_nI hj.1 (by omega)) (by rw [nI_clamp (by omega)]; exact kk)
theorem mj_copy {idx a b n m : Nat} {f g : Nat → Int32} {sp dp c1 : Nat} (hd : decode J.2.1 pc = .ok (.invokestatic idx, 3)) (h1 : Cond.methodLink J.1.cls idx arraycopyName ∈ mWS) (h2 : Cond.native arraycopyName ∈ mWS) (h3 : Cond.static arraycopyName ∈ mWS) (h4 : Cond.initialized "java/lang/System" ∈ mWS) (ha : h[a]? = some (.inl (.int, n, .inl f))) (hb : h[b]? = some (.inl (.int, m, .inl g))) (hl : sp + c1 ≤ n ∧ dp + c1 ≤ m ∧ n < 1000 ∧ m < 1000) (hdd : 1 ≤ d.1 ∧ (st.map fun v => v.category).sum + 18 ≤ d.2)
    (kk : mGo J L xs d MC MS Post cn sn (pc + 3) lv st (h.set b (.inl (.int, m, .inl (va_cpy f g sp dp c1))))) : mGo J L xs d MC MS Post cn sn pc lv (.int (nI c1) :: .int (nI dp) :: .ref b :: .int (nI sp) :: .ref a :: st) h := by
  intro p l e R s m' args below meth c D ro A al0 Q C hH al ws H locs ls sC hx hY hL hs
  obtain ⟨r1, rfl, hs1⟩ := mL_i hs
  obtain ⟨r2, rfl, hs2⟩ := mL_i hs1
  obtain ⟨b', cb, r3, rfl, hbb, hs3⟩ := mL_r hs2
  obtain ⟨r4, rfl, hs4⟩ := mL_i hs3
  obtain ⟨a', ca, r5, rfl, haa, hs5⟩ := mL_r hs4
  obtain ⟨a2, c2, f2, k1, k2, k3⟩ := hY.2.2.2.2.2 a _ ha
  rw [haa] at k1
  cases k1
  obtain ⟨rfl, -, k4, k5⟩ := k3
  obtain ⟨b2, c3, f3, j1, j2, j3⟩ := hY.2.2.2.2.2 b _ hb
  rw [hbb] at j1
  cases j1
  obtain ⟨rfl, -, j4, j5⟩ := j3
  have hK : va_K D vwCl [(ca, .int), (cb, .int)] s := ⟨C.2.2.2.2.2.2.2.1.1.1, fun k q hk => by
    match k, hk with
    | 0, hk => cases hk; exact ⟨k4, k5⟩
    | 1, hk => cases hk; exact ⟨j4, j5⟩⟩
  have hsz : c.maxLocals = ls.size := by rw [C.2.2.2.1]; obtain ⟨-, lc, q1, -⟩ := hL; exact q1.1.symm
  have hR := C.2.2.2.2.2.2.2.2.2.2
  refine va_copyi C.1 C.2.1 hsz C.2.2.2.2.1 (C.2.2.2.2.2.1 _ h1) (C.2.2.2.2.2.1 _ h2) (C.2.2.2.2.2.1 _ h3) (C.2.2.2.2.2.1 _ h4) hK hY.1 hY.2.1 hY.2.2.1 a b 0 1 k2 j2 rfl rfl rfl (nI_pos (by omega)) (nI_pos (by omega)) (nI_pos (by omega)) (by rw [nI_clamp (by omega), nI_clamp (by omega)]; omega) (by rw [nI_clamp (by omega), nI_clamp (by omega)]; omega) (fun i _ => rfl) (Nat.le_trans hdd.1 hR.1) ?_ hd (fun H1 locs1 hP hD hS => ?_)
  · have q := mL_catsum hs5
    have := Nat.le_trans hdd.2 hR.2.1
    rw [q]
    show _ + (5 + 2 + 11) ≤ _
    omega
  · rw [nI_clamp (by omega), nI_clamp (by omega), nI_clamp (by omega)] at hP hD
    exact kk p l e R s m' args below meth c D ro A al0 Q C hH al _ H1 locs1 ls _ hx ⟨hP, hD, hS, mWd_set hY.2.2.2 hbb ⟨rfl, (fun g z => by cases z), j4, j5⟩⟩ hL hs5
theorem mj_icmpeqN {a b : Nat} {off : Int} (hd : decode J.2.1 pc = .ok (.if_icmp .eq off, 3)) (tgt : Nat) (ht : (pc : Int) + off = (tgt : Int)) (hb : a < 2 ^ 31 ∧ b < 2 ^ 31) (kt : a = b → mGo J L xs d MC MS Post cn sn tgt lv st h) (kf : a ≠ b → mGo J L xs d MC MS Post cn sn (pc + 3) lv st h) : mGo J L xs d MC MS Post cn sn pc lv (.int (nI b) :: .int (nI a) :: st) h :=
  mj_icmpeq hd tgt ht (fun z => kt ((nI_eq hb.1 hb.2).mp z)) (fun z => kf (fun q => z ((nI_eq hb.1 hb.2).mpr q)))
theorem mj_icmpneN {a b : Nat} {off : Int} (hd : decode J.2.1 pc = .ok (.if_icmp .ne off, 3)) (tgt : Nat) (ht : (pc : Int) + off = (tgt : Int)) (hb : a < 2 ^ 31 ∧ b < 2 ^ 31) (kt : a ≠ b → mGo J L xs d MC MS Post cn sn tgt lv st h) (kf : a = b → mGo J L xs d MC MS Post cn sn (pc + 3) lv st h) : mGo J L xs d MC MS Post cn sn pc lv (.int (nI b) :: .int (nI a) :: st) h :=
  mj_icmpne hd tgt ht (fun z => kt (fun q => z ((nI_eq hb.1 hb.2).mpr q))) (fun z => kf ((nI_eq hb.1 hb.2).mp z))
theorem mj_icmpltN {a b : Nat} {off : Int} (hd : decode J.2.1 pc = .ok (.if_icmp .lt off, 3)) (tgt : Nat) (ht : (pc : Int) + off = (tgt : Int)) (hb : a < 2 ^ 31 ∧ b < 2 ^ 31) (kt : a < b → mGo J L xs d MC MS Post cn sn tgt lv st h) (kf : b ≤ a → mGo J L xs d MC MS Post cn sn (pc + 3) lv st h) : mGo J L xs d MC MS Post cn sn pc lv (.int (nI b) :: .int (nI a) :: st) h :=
  mj_icmplt hd tgt ht (fun z => kt ((nI_ltI hb.1 hb.2).mp z)) (fun z => kf (Nat.not_lt.mp (fun q => z ((nI_ltI hb.1 hb.2).mpr q))))
theorem mj_icmpgeN {a b : Nat} {off : Int} (hd : decode J.2.1 pc = .ok (.if_icmp .ge off, 3)) (tgt : Nat) (ht : (pc : Int) + off = (tgt : Int)) (hb : a < 2 ^ 31 ∧ b < 2 ^ 31) (kt : b ≤ a → mGo J L xs d MC MS Post cn sn tgt lv st h) (kf : a < b → mGo J L xs d MC MS Post cn sn (pc + 3) lv st h) : mGo J L xs d MC MS Post cn sn pc lv (.int (nI b) :: .int (nI a) :: st) h :=
  mj_icmpge hd tgt ht (fun z => kt ((nI_leI hb.2 hb.1).mp z)) (fun z => kf (Nat.not_le.mp (fun q => z ((nI_leI hb.2 hb.1).mpr q))))
theorem mj_icmpgtN {a b : Nat} {off : Int} (hd : decode J.2.1 pc = .ok (.if_icmp .gt off, 3)) (tgt : Nat) (ht : (pc : Int) + off = (tgt : Int)) (hb : a < 2 ^ 31 ∧ b < 2 ^ 31) (kt : b < a → mGo J L xs d MC MS Post cn sn tgt lv st h) (kf : a ≤ b → mGo J L xs d MC MS Post cn sn (pc + 3) lv st h) : mGo J L xs d MC MS Post cn sn pc lv (.int (nI b) :: .int (nI a) :: st) h :=
  mj_icmpgt hd tgt ht (fun z => kt ((nI_ltI hb.2 hb.1).mp z)) (fun z => kf (Nat.not_lt.mp (fun q => z ((nI_ltI hb.2 hb.1).mpr q))))
theorem mj_icmpleN {a b : Nat} {off : Int} (hd : decode J.2.1 pc = .ok (.if_icmp .le off, 3)) (tgt : Nat) (ht : (pc : Int) + off = (tgt : Int)) (hb : a < 2 ^ 31 ∧ b < 2 ^ 31) (kt : a ≤ b → mGo J L xs d MC MS Post cn sn tgt lv st h) (kf : b < a → mGo J L xs d MC MS Post cn sn (pc + 3) lv st h) : mGo J L xs d MC MS Post cn sn pc lv (.int (nI b) :: .int (nI a) :: st) h :=
  mj_icmple hd tgt ht (fun z => kt ((nI_leI hb.1 hb.2).mp z)) (fun z => kf (Nat.not_le.mp (fun q => z ((nI_leI hb.1 hb.2).mpr q))))
theorem mj_ifeqN {a : Nat} {off : Int} (hd : decode J.2.1 pc = .ok (.ifCond .eq off, 3)) (tgt : Nat) (ht : (pc : Int) + off = (tgt : Int)) (hb : a < 2 ^ 31) (kt : a = 0 → mGo J L xs d MC MS Post cn sn tgt lv st h) (kf : a ≠ 0 → mGo J L xs d MC MS Post cn sn (pc + 3) lv st h) : mGo J L xs d MC MS Post cn sn pc lv (.int (nI a) :: st) h :=
  mj_ifeq hd tgt ht (fun z => kt ((nI_eq (b := 0) hb (by decide)).mp z)) (fun z => kf (fun q => z ((nI_eq (b := 0) hb (by decide)).mpr q)))
theorem mj_ifneN {a : Nat} {off : Int} (hd : decode J.2.1 pc = .ok (.ifCond .ne off, 3)) (tgt : Nat) (ht : (pc : Int) + off = (tgt : Int)) (hb : a < 2 ^ 31) (kt : a ≠ 0 → mGo J L xs d MC MS Post cn sn tgt lv st h) (kf : a = 0 → mGo J L xs d MC MS Post cn sn (pc + 3) lv st h) : mGo J L xs d MC MS Post cn sn pc lv (.int (nI a) :: st) h :=
  mj_ifne hd tgt ht (fun z => kt (fun q => z ((nI_eq (b := 0) hb (by decide)).mpr q))) (fun z => kf ((nI_eq (b := 0) hb (by decide)).mp z))
theorem mj_ifleN {a : Nat} {off : Int} (hd : decode J.2.1 pc = .ok (.ifCond .le off, 3)) (tgt : Nat) (ht : (pc : Int) + off = (tgt : Int)) (hb : a < 2 ^ 31) (kt : a = 0 → mGo J L xs d MC MS Post cn sn tgt lv st h) (kf : 0 < a → mGo J L xs d MC MS Post cn sn (pc + 3) lv st h) : mGo J L xs d MC MS Post cn sn pc lv (.int (nI a) :: st) h :=
  mj_ifle hd tgt ht (fun z => kt (by have := (nI_leI (b := 0) hb (by decide)).mp z; omega)) (fun z => kf (by have := fun q => z ((nI_leI (b := 0) hb (by decide)).mpr q); exact Nat.pos_of_ne_zero (fun e => this (by omega))))
end MJ4
theorem gne {h : mHeap} {j k : Nat} {x y : mCell} (hk : h[k]? = some x) (hjk : j ≠ k) : (h.set j y)[k]? = some x := by rw [List.getElem?_set_ne hjk]; exact hk
theorem gself {h : mHeap} {k : Nat} {x y : mCell} (hk : h[k]? = some x) : (h.set k y)[k]? = some y := List.getElem?_set_self ((List.getElem?_eq_some_iff.mp hk).1)
