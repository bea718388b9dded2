/-! ROWS: a row of bytes l (as numbers), held in an int array f of cap places, its count beside it -/
def Rf (l : List Nat) (f : Nat → Int32) : Prop := ∀ j, j < l.length → f j = nI (l.getD j 0)
abbrev cRow (k' : Nat) (l : List Nat) : mCell := .inr (0, [.ref k', .int (nI l.length)])
abbrev cArr (cap : Nat) (f : Nat → Int32) : mCell := .inl (.int, cap, .inl f)
def rPut (h : mHeap) (k k' cap : Nat) (l : List Nat) (f : Nat → Int32) : mHeap := (h.set k' (cArr cap f)).set k (cRow k' l)
def RA (h : mHeap) (k k' cap : Nat) (l : List Nat) (f : Nat → Int32) : Prop := h[k]? = some (cRow k' l) ∧ h[k']? = some (cArr cap f) ∧ Rf l f ∧ l.length ≤ cap ∧ cap < 1000 ∧ k ≠ k'
theorem set_same {h : mHeap} {k : Nat} {x : mCell} (hk : h[k]? = some x) : h.set k x = h := by
  apply List.ext_getElem?
  intro i
  by_cases hi : i = k
  · subst hi
    rw [List.getElem?_set_self ((List.getElem?_eq_some_iff.mp hk).1), hk]
  · rw [List.getElem?_set_ne (Ne.symm hi)]
theorem RA_put {h : mHeap} {k k' cap : Nat} {l l' : List Nat} {f f' : Nat → Int32} (hr : RA h k k' cap l f) (h2 : Rf l' f') (h3 : l'.length ≤ cap) : RA (rPut h k k' cap l' f') k k' cap l' f' := by
  obtain ⟨a1, a2, a3, a4, a5, a6⟩ := hr
  have l1 := (List.getElem?_eq_some_iff.mp a1).1
  have l2 := (List.getElem?_eq_some_iff.mp a2).1
  refine ⟨?_, ?_, h2, h3, a5, a6⟩
  · exact List.getElem?_set_self (by rw [List.length_set]; exact l1)
  · rw [rPut, List.getElem?_set_ne a6, List.getElem?_set_self l2]
theorem rPut_rPut {h : mHeap} {k k' cap : Nat} {l l' : List Nat} {f f' : Nat → Int32} (hk : k ≠ k') : rPut (rPut h k k' cap l f) k k' cap l' f' = rPut h k k' cap l' f' := by
  unfold rPut
  rw [List.set_comm _ _ (Ne.symm hk), List.set_set, List.set_comm _ _ hk, List.set_set]
theorem rPut_self {h : mHeap} {k k' cap : Nat} {l : List Nat} {f : Nat → Int32} (hr : RA h k k' cap l f) : rPut h k k' cap l f = h := by
  unfold rPut
  rw [set_same hr.2.1, set_same hr.1]
theorem Rf_add {l : List Nat} {f : Nat → Int32} {b : Nat} (h : Rf l f) : Rf (l ++ [b]) (upd f l.length (nI b)) := by
  intro j hj
  simp only [List.length_append, List.length_cons, List.length_nil] at hj
  by_cases e : j = l.length
  · subst e
    rw [pk_us]
    simp
  · rw [pk_un e, h j (by omega)]
    simp [List.getD_eq_getElem?_getD, List.getElem?_append_left (show j < l.length by omega)]
def atV (l : List Nat) (i : Int32) : Int32 := if 0 ≤ i ∧ i.toNatClampNeg < l.length then nI (l.getD i.toNatClampNeg 0) else -1
theorem atV_n {l : List Nat} {i : Nat} (hi : i < 2 ^ 31) : atV l (nI i) = if i < l.length then nI (l.getD i 0) else -1 := by
  unfold atV
  rw [nI_clamp hi]
  simp [nI_pos' hi]
theorem atV_in {l : List Nat} {i : Nat} (hi : i < l.length) (hl : l.length < 2 ^ 31) : atV l (nI i) = nI (l.getD i 0) := by
  rw [atV_n (by omega), if_pos hi]
theorem i_nlt {x : Int32} (h : ¬ x < 0) : 0 ≤ x := by
  rw [Int32.lt_iff_toInt_lt] at h
  rw [Int32.le_iff_toInt_le]
  omega
theorem i_in {x : Int32} {n : Nat} (h0 : ¬ x < 0) (h : ¬ nI n ≤ x) (hn : n < 2 ^ 31) : x.toNatClampNeg < n := by
  rcases nI_of h0 with ⟨j, hj, rfl⟩
  rw [nI_clamp hj]
  rw [nI_leI hn hj] at h
  omega
theorem i_vin {x : Int32} {n cap : Nat} (h0 : ¬ x < 0) (h : ¬ nI n ≤ x) (hn : n ≤ cap) (hc : cap < 1000) : vp_in x cap := by
  rcases nI_of h0 with ⟨j, hj, rfl⟩
  rw [nI_leI (by omega) hj] at h
  exact vp_in_nI (by omega) (by omega)
theorem s_Row_size {L : Nat} {xs : Nat → Int32} {Post : Option Value → mHeap → Prop} {h : mHeap} {k k' cap : Nat} {l : List Nat} {f : Nat → Int32} (hr : RA h k k' cap l f) (kP : Post (some (.int (nI l.length))) h) : mMet M_Row_size L xs (0, 0) 0 0 [.ref k] h Post := by
  refine mMet_of rfl (Nat.le_of_ble_eq_true rfl) ?_
  refine mj_aload_n d_Row_size_0 rfl ?_
  refine mj_get d_Row_size_1 fd_Row_9 hr.1 rfl ?_
  refine mj_iret d_Row_size_4 rfl rfl (Nat.le_refl _) (Nat.le_refl _) ?_
  exact kP
theorem s_Row_clear {L : Nat} {xs : Nat → Int32} {Post : Option Value → mHeap → Prop} {h : mHeap} {k k' cap : Nat} {l : List Nat} {f : Nat → Int32} (hr : RA h k k' cap l f) (kP : Post none (rPut h k k' cap [] f)) : mMet M_Row_clear L xs (0, 0) 0 0 [.ref k] h Post := by
  have e : rPut h k k' cap [] f = h.set k (cRow k' []) := by unfold rPut; rw [set_same hr.2.1]
  rw [e] at kP
  refine mMet_of rfl (Nat.le_of_ble_eq_true rfl) ?_
  refine mj_aload_n d_Row_clear_0 rfl ?_
  refine mj_iconst d_Row_clear_1 0 (by decide) ?_
  refine mj_put d_Row_clear_2 fd_Row_9 ft_Row_1 hr.1 (Nat.le_of_ble_eq_true rfl) rfl rfl ?_
  refine mj_vret d_Row_clear_5 rfl (Nat.le_refl _) (Nat.le_refl _) ?_
  exact kP
theorem s_Row_at {L : Nat} {xs : Nat → Int32} {Post : Option Value → mHeap → Prop} {h : mHeap} {k k' cap : Nat} {l : List Nat} {f : Nat → Int32} (hr : RA h k k' cap l f) {i : Int32} (kP : Post (some (.int (atV l i))) h) : mMet M_Row_at L xs (0, 0) 0 0 [.ref k, .int i] h Post := by
  refine mMet_of rfl (Nat.le_of_ble_eq_true rfl) ?_
  refine mj_iload_n d_Row_at_0 rfl ?_
  refine mj_iflt d_Row_at_1 21 rfl (fun c_1 => ?_) (fun c_1 => ?_)
  · refine mj_iconst d_Row_at_21 (-1) (by decide) ?_
    refine mj_iret d_Row_at_22 rfl rfl (Nat.le_refl _) (Nat.le_refl _) ?_
    first
      | (rw [hr.2.2.1 _ (i_in c_1 c_9 (by have := hr.2.2.2.1; have := hr.2.2.2.2.1; omega)), ← (if_pos ⟨i_nlt c_1, i_in c_1 c_9 (by have := hr.2.2.2.1; have := hr.2.2.2.2.1; omega)⟩ : atV l i = _)]; exact kP)
      | (rw [← (if_neg (fun z => by have := z.1; rw [Int32.le_iff_toInt_le] at this; rw [Int32.lt_iff_toInt_lt] at c_1; simp at this c_1; omega) : atV l i = _)]; exact kP)
      | (rw [← (if_neg (fun z => by rcases nI_of c_1 with ⟨j, hj, rfl⟩; have q := z.2; rw [nI_clamp hj] at q; rw [nI_leI (by have := hr.2.2.2.1; have := hr.2.2.2.2.1; omega) hj] at c_9; omega) : atV l i = _)]; exact kP)
  · refine mj_iload_n d_Row_at_4 rfl ?_
    refine mj_aload_n d_Row_at_5 rfl ?_
    refine mj_get d_Row_at_6 fd_Row_9 hr.1 rfl ?_
    refine mj_icmpge d_Row_at_9 21 rfl (fun c_9 => ?_) (fun c_9 => ?_)
    · refine mj_iconst d_Row_at_21 (-1) (by decide) ?_
      refine mj_iret d_Row_at_22 rfl rfl (Nat.le_refl _) (Nat.le_refl _) ?_
      first
        | (rw [hr.2.2.1 _ (i_in c_1 c_9 (by have := hr.2.2.2.1; have := hr.2.2.2.2.1; omega)), ← (if_pos ⟨i_nlt c_1, i_in c_1 c_9 (by have := hr.2.2.2.1; have := hr.2.2.2.2.1; omega)⟩ : atV l i = _)]; exact kP)
        | (rw [← (if_neg (fun z => by have := z.1; rw [Int32.le_iff_toInt_le] at this; rw [Int32.lt_iff_toInt_lt] at c_1; simp at this c_1; omega) : atV l i = _)]; exact kP)
        | (rw [← (if_neg (fun z => by rcases nI_of c_1 with ⟨j, hj, rfl⟩; have q := z.2; rw [nI_clamp hj] at q; rw [nI_leI (by have := hr.2.2.2.1; have := hr.2.2.2.2.1; omega) hj] at c_9; omega) : atV l i = _)]; exact kP)
    · refine mj_aload_n d_Row_at_12 rfl ?_
      refine mj_get d_Row_at_13 fd_Row_15 hr.1 rfl ?_
      refine mj_iload_n d_Row_at_16 rfl ?_
      refine mj_iald d_Row_at_17 hr.2.1 (i_vin c_1 c_9 hr.2.2.2.1 hr.2.2.2.2.1) ?_
      refine mj_goto d_Row_at_18 22 rfl ?_
      refine mj_iret d_Row_at_22 rfl rfl (Nat.le_refl _) (Nat.le_refl _) ?_
      first
        | (rw [hr.2.2.1 _ (i_in c_1 c_9 (by have := hr.2.2.2.1; have := hr.2.2.2.2.1; omega)), ← (if_pos ⟨i_nlt c_1, i_in c_1 c_9 (by have := hr.2.2.2.1; have := hr.2.2.2.2.1; omega)⟩ : atV l i = _)]; exact kP)
        | (rw [← (if_neg (fun z => by have := z.1; rw [Int32.le_iff_toInt_le] at this; rw [Int32.lt_iff_toInt_lt] at c_1; simp at this c_1; omega) : atV l i = _)]; exact kP)
        | (rw [← (if_neg (fun z => by rcases nI_of c_1 with ⟨j, hj, rfl⟩; have q := z.2; rw [nI_clamp hj] at q; rw [nI_leI (by have := hr.2.2.2.1; have := hr.2.2.2.2.1; omega) hj] at c_9; omega) : atV l i = _)]; exact kP)
theorem s_Row_add {L : Nat} {xs : Nat → Int32} {Post : Option Value → mHeap → Prop} {h : mHeap} {k k' cap : Nat} {l : List Nat} {f : Nat → Int32} (hr : RA h k k' cap l f) {b : Nat} (kF : l.length = cap → Post (some (.int 0)) h) (kT : l.length < cap → ∀ f', Rf (l ++ [b]) f' → Post (some (.int 1)) (rPut h k k' cap (l ++ [b]) f')) : mMet M_Row_add L xs (0, 0) 0 0 [.ref k, .int (nI b)] h Post := by
  have hcap := hr.2.2.2.1
  have hc1 := hr.2.2.2.2.1
  refine mMet_of rfl (Nat.le_of_ble_eq_true rfl) ?_
  refine mj_aload_n d_Row_add_0 rfl ?_
  refine mj_get d_Row_add_1 fd_Row_9 hr.1 rfl ?_
  refine mj_aload_n d_Row_add_4 rfl ?_
  refine mj_get d_Row_add_5 fd_Row_15 hr.1 rfl ?_
  refine mj_alen d_Row_add_8 hr.2.1 ?_
  refine mj_icmplt d_Row_add_9 14 rfl (fun c_9 => ?_) (fun c_9 => ?_)
  · refine mj_aload_n d_Row_add_14 rfl ?_
    refine mj_get d_Row_add_15 fd_Row_15 hr.1 rfl ?_
    refine mj_aload_n d_Row_add_18 rfl ?_
    refine mj_get d_Row_add_19 fd_Row_9 hr.1 rfl ?_
    refine mj_iload_n d_Row_add_22 rfl ?_
    refine mj_iast d_Row_add_23 hr.2.1 (vp_in_nI (show l.length < cap from (nI_ltI (by omega) (by omega)).mp c_9) (by omega)) ?_
    refine mj_aload_n d_Row_add_24 rfl ?_
    refine mj_dup d_Row_add_25 rfl ?_
    refine mj_get d_Row_add_26 fd_Row_9 (by rw [List.getElem?_set_ne (Ne.symm hr.2.2.2.2.2)]; exact hr.1) rfl ?_
    refine mj_iconst d_Row_add_29 1 (by decide) ?_
    refine mj_iadd d_Row_add_30 ?_
    refine mj_put d_Row_add_31 fd_Row_9 ft_Row_1 (by rw [List.getElem?_set_ne (Ne.symm hr.2.2.2.2.2)]; exact hr.1) (Nat.le_of_ble_eq_true rfl) rfl rfl ?_
    refine mj_iconst d_Row_add_34 1 (by decide) ?_
    refine mj_iret d_Row_add_35 rfl rfl (Nat.le_refl _) (Nat.le_refl _) ?_
    have q : l.length < cap := (nI_ltI (by omega) (by omega)).mp c_9
    have e := kT q _ (Rf_add (b := b) hr.2.2.1)
    unfold rPut at e
    rw [nI_clamp (by omega)]
    rw [show nI l.length + 1 = nI (l ++ [b]).length by rw [List.length_append]; exact nI_1 _]
    exact e
  · refine mj_iconst d_Row_add_12 0 (by decide) ?_
    refine mj_iret d_Row_add_13 rfl rfl (Nat.le_refl _) (Nat.le_refl _) ?_
    exact kF (by have q : ¬ l.length < cap := fun z => c_9 ((nI_ltI (by omega) (by omega)).mpr z); omega)
