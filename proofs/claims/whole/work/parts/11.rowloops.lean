theorem RA_other {h : mHeap} {k k' cap j j' capj : Nat} {l lj : List Nat} {f fj : Nat → Int32} (hj : RA h j j' capj lj fj) (h1 : k ≠ j) (h2 : k ≠ j') (h3 : k' ≠ j) (h4 : k' ≠ j') : RA (rPut h k k' cap l f) j j' capj lj fj := by
  obtain ⟨a1, a2, a3⟩ := hj
  refine ⟨?_, ?_, a3⟩
  · rw [rPut, List.getElem?_set_ne h1, List.getElem?_set_ne h3]; exact a1
  · rw [rPut, List.getElem?_set_ne h2, List.getElem?_set_ne h4]; exact a2
theorem rPut_get {h : mHeap} {k k' cap j : Nat} {l : List Nat} {f : Nat → Int32} (h1 : k ≠ j) (h2 : k' ≠ j) : (rPut h k k' cap l f)[j]? = h[j]? := by
  rw [rPut, List.getElem?_set_ne h1, List.getElem?_set_ne h2]
theorem take_s {lo : List Nat} {i : Nat} (hi : i < lo.length) : lo.take i ++ [lo.getD i 0] = lo.take (i + 1) := by
  rw [List.take_succ, List.getD_eq_getElem?_getD, List.getElem?_eq_getElem hi]
  rfl
theorem lp_addNumber {L : Nat} {xs : Nat → Int32} {Post : Option Value → mHeap → Prop} {h : mHeap} {k k' cap : Nat} {l : List Nat} {f : Nat → Int32} (hr : RA h k k' cap l f) {n : Int64} {c : Int32} : ∀ (r : Nat) (fi : Nat → Int32) (l1 : List Nat), l1.length + r ≤ cap ∧ r ≤ 8 → Rf l1 fi → ∀ x : Int32, (r = 0 ∧ x = -1) ∨ (0 < r ∧ x = nI (r - 1)) → (∀ f', Rf (l1 ++ beL n r) f' → Post none (rPut h k k' cap (l1 ++ beL n r) f')) → mGo M_Row_addNumber L xs (1, 21) 0 0 Post 0 0 5 [some (.ref k), some (.long n), none, some (.int c), some (.int x)] [] (rPut h k k' cap l1 fi) := by
  intro r
  have hcap := hr.2.2.2.1
  have hc1 := hr.2.2.2.2.1
  induction r with
  | zero =>
    intro fi l1 hl hfi x hx kP
    have hx0 : (0 : Nat) = 0 ∧ x = -1 := by
      rcases hx with hx | hx
      · exact hx
      · exact absurd hx.1 (by decide)
    refine mj_iload d_Row_addNumber_5 rfl ?_
    refine mj_iflt d_Row_addNumber_7 33 rfl (fun c_7 => ?_) (fun c_7 => ?_)
    · refine mj_vret d_Row_addNumber_33 rfl (Nat.le_refl _) (Nat.le_refl _) ?_
      have e := kP fi
      rw [beL, List.append_nil] at e
      exact e hfi
    · exact absurd (by rw [hx0.2]; decide) c_7
  | succ r ih =>
    intro fi l1 hl hfi x hx kP
    obtain rfl : x = nI r := by
      rcases hx with hx | hx
      · exact absurd hx.1 (by omega)
      · exact hx.2
    have hs : ((((8 : Int32) * nI r).toInt64 &&& 63).toBitVec.smod 64).toNat = 8 * r := by
      have : ∀ r : Nat, r < 8 → ((((8 : Int32) * nI r).toInt64 &&& 63).toBitVec.smod 64).toNat = 8 * r := by decide
      exact this r (by omega)
    refine mj_iload d_Row_addNumber_5 rfl ?_
    refine mj_iflt d_Row_addNumber_7 33 rfl (fun c_7 => ?_) (fun c_7 => ?_)
    · exact absurd c_7 (nI_pos (by omega))
    · refine mj_aload_n d_Row_addNumber_10 rfl ?_
      refine mj_lload_n d_Row_addNumber_11 rfl ?_
      refine mj_bipush d_Row_addNumber_12 8 (by decide) ?_
      refine mj_iload d_Row_addNumber_14 rfl ?_
      refine mj_imul d_Row_addNumber_16 ?_
      refine mj_lshr d_Row_addNumber_17 ?_
      refine mj_l2i d_Row_addNumber_18 ?_
      refine mj_sipush d_Row_addNumber_19 255 (by decide) ?_
      refine mj_iand d_Row_addNumber_22 ?_
      refine mj_virtual (d' := (0, 0)) (mc := 0) (ms := 0) (As := [_]) d_Row_addNumber_23 cw_Row_add q_136 q_137 q_138 (ci := 0) rfl (RA_put hr hfi (by omega)).1 rfl rfl (mRoomB rfl) ?_
      rw [l_b1 n _ r hs (by omega)]
      refine s_Row_add (RA_put hr hfi (by omega)) (fun z => by omega) (fun _ g hg => ?_)
      rw [rPut_rPut hr.2.2.2.2.2]
      refine mj_pop d_Row_addNumber_26 rfl ?_
      refine mj_iinc d_Row_addNumber_27 rfl (by decide) _ rfl ?_
      dsimp only [mSt1, mSt2, mKill, Nat.reduceAdd]
      refine mj_goto d_Row_addNumber_30 5 rfl ?_
      refine ih g (l1 ++ [byteN n r]) (by simp; omega) hg _ ?_ ?_
      · cases r with
        | zero => exact Or.inl ⟨rfl, by decide⟩
        | succ r => exact Or.inr ⟨by omega, by rw [Nat.add_sub_cancel]; exact pk_m1 r⟩
      · have e : l1 ++ [byteN n r] ++ beL n r = l1 ++ beL n (r + 1) := by rw [List.append_assoc]; rfl
        rw [e]
        exact kP
theorem s_Row_addNumber {L : Nat} {xs : Nat → Int32} {Post : Option Value → mHeap → Prop} {h : mHeap} {k k' cap : Nat} {l : List Nat} {f : Nat → Int32} (hr : RA h k k' cap l f) {n : Int64} {c : Nat} (hc : l.length + c ≤ cap) (h8 : c ≤ 8) (kP : ∀ f', Rf (l ++ beL n c) f' → Post none (rPut h k k' cap (l ++ beL n c) f')) : mMet M_Row_addNumber L xs (1, 21) 0 0 [.ref k, .long n, .int (nI c)] h Post := by
  refine mMet_of rfl (Nat.le_of_ble_eq_true rfl) ?_
  refine mj_iload_n d_Row_addNumber_0 rfl ?_
  refine mj_iconst d_Row_addNumber_1 1 (by decide) ?_
  refine mj_isub d_Row_addNumber_2 ?_
  refine mj_istore d_Row_addNumber_3 (by decide) ?_
  dsimp only [mSt1, mSt2, mKill, Nat.reduceAdd]
  have e := lp_addNumber hr (L := L) (xs := xs) (Post := Post) (n := n) (c := nI c) c f l ⟨hc, h8⟩ hr.2.2.1 (nI c - 1) (by
      cases c with
      | zero => exact Or.inl ⟨rfl, by decide⟩
      | succ c => exact Or.inr ⟨by omega, by rw [Nat.add_sub_cancel]; exact nI_pred c⟩) kP
  rw [rPut_self hr] at e
  exact e
theorem lp_addRow {L : Nat} {xs : Nat → Int32} {Post : Option Value → mHeap → Prop} {h : mHeap} {k k' cap : Nat} {l : List Nat} {f : Nat → Int32} (hr : RA h k k' cap l f) {j j' capj : Nat} {lo : List Nat} {fo : Nat → Int32} (hro : RA h j j' capj lo fo) (n1 : k ≠ j) (n2 : k ≠ j') (n3 : k' ≠ j) (n4 : k' ≠ j') (hc : l.length + lo.length ≤ cap) (kP : ∀ f', Rf (l ++ lo) f' → Post none (rPut h k k' cap (l ++ lo) f')) : ∀ (n i : Nat) (fi : Nat → Int32), i + n = lo.length → Rf (l ++ lo.take i) fi → mGo M_Row_addRow L xs (1, 21) 0 0 Post 0 0 2 [some (.ref k), some (.ref j), some (.int (nI i))] [] (rPut h k k' cap (l ++ lo.take i) fi) := by
  intro n
  have hcap := hr.2.2.2.1
  have hc1 := hr.2.2.2.2.1
  have hcj := hro.2.2.2.1
  have hcj1 := hro.2.2.2.2.1
  induction n with
  | zero =>
    intro i fi hi hfi
    refine mj_iload_n d_Row_addRow_2 rfl ?_
    refine mj_aload_n d_Row_addRow_3 rfl ?_
    refine mj_get d_Row_addRow_4 fd_Row_9 (RA_other hro n1 n2 n3 n4).1 rfl ?_
    refine mj_icmpge d_Row_addRow_7 26 rfl (fun c_7 => ?_) (fun c_7 => ?_)
    · refine mj_vret d_Row_addRow_26 rfl (Nat.le_refl _) (Nat.le_refl _) ?_
      have ei : lo.take i = lo := List.take_of_length_le (by omega)
      rw [ei] at hfi ⊢
      exact kP fi hfi
    · exact absurd (nI_le (by omega) (by omega)) c_7
  | succ n ih =>
    intro i fi hi hfi
    refine mj_iload_n d_Row_addRow_2 rfl ?_
    refine mj_aload_n d_Row_addRow_3 rfl ?_
    refine mj_get d_Row_addRow_4 fd_Row_9 (RA_other hro n1 n2 n3 n4).1 rfl ?_
    refine mj_icmpge d_Row_addRow_7 26 rfl (fun c_7 => ?_) (fun c_7 => ?_)
    · exact absurd c_7 (nI_ge (by omega) (by omega))
    · refine mj_aload_n d_Row_addRow_10 rfl ?_
      refine mj_aload_n d_Row_addRow_11 rfl ?_
      refine mj_iload_n d_Row_addRow_12 rfl ?_
      refine mj_virtual (d' := (0, 0)) (mc := 0) (ms := 0) (As := [_]) d_Row_addRow_13 cw_Row_at q_240 q_229 q_230 (ci := 0) rfl (RA_other hro n1 n2 n3 n4).1 rfl rfl (mRoomB rfl) ?_
      refine s_Row_at (RA_other hro n1 n2 n3 n4) ?_
      rw [atV_in (by omega) (by omega)]
      refine mj_virtual (d' := (0, 0)) (mc := 0) (ms := 0) (As := [_]) d_Row_addRow_16 cw_Row_add q_136 q_137 q_138 (ci := 0) rfl (RA_put hr hfi (by simp; omega)).1 rfl rfl (mRoomB rfl) ?_
      refine s_Row_add (RA_put hr hfi (by simp; omega)) (fun z => by simp at z; omega) (fun _ g hg => ?_)
      rw [rPut_rPut hr.2.2.2.2.2, List.append_assoc, take_s (by omega)] 
      rw [List.append_assoc, take_s (by omega)] at hg
      refine mj_pop d_Row_addRow_19 rfl ?_
      refine mj_iinc d_Row_addRow_20 rfl (by decide) (nI (i + 1)) (nI_1 i) ?_
      dsimp only [mSt1, mSt2, mKill, Nat.reduceAdd]
      refine mj_goto d_Row_addRow_23 2 rfl ?_
      exact ih (i + 1) g (by omega) hg
theorem s_Row_addRow {L : Nat} {xs : Nat → Int32} {Post : Option Value → mHeap → Prop} {h : mHeap} {k k' cap : Nat} {l : List Nat} {f : Nat → Int32} (hr : RA h k k' cap l f) {j j' capj : Nat} {lo : List Nat} {fo : Nat → Int32} (hro : RA h j j' capj lo fo) (n1 : k ≠ j) (n2 : k ≠ j') (n3 : k' ≠ j) (n4 : k' ≠ j') (hc : l.length + lo.length ≤ cap) (kP : ∀ f', Rf (l ++ lo) f' → Post none (rPut h k k' cap (l ++ lo) f')) : mMet M_Row_addRow L xs (1, 21) 0 0 [.ref k, .ref j] h Post := by
  refine mMet_of rfl (Nat.le_of_ble_eq_true rfl) ?_
  refine mj_iconst d_Row_addRow_0 0 (by decide) ?_
  refine mj_istore_n d_Row_addRow_1 (by decide) ?_
  dsimp only [mSt1, mSt2, mKill, Nat.reduceAdd]
  have e := lp_addRow hr hro n1 n2 n3 n4 hc kP (L := L) (xs := xs) lo.length 0 f (by omega) (by rw [List.take_zero, List.append_nil]; exact hr.2.2.1)
  rw [List.take_zero, List.append_nil, rPut_self hr] at e
  exact e
def numV (l : List Nat) (p : Nat) : Nat → Int64
  | 0 => 0
  | c + 1 => numV l p c * 256 + (atV l (nI (p + c))).toInt64
theorem numV_in {l : List Nat} {p : Nat} (hl : l.length < 1000) (hb : ∀ b ∈ l, b < 256) : ∀ c : Nat, c ≤ 7 → p + c ≤ l.length → numV l p c = lN (beV ((l.drop p).take c)) := by
  intro c
  induction c with
  | zero => intro _ _; rfl
  | succ c ih =>
    intro h7 hc
    have hlt : p + c < l.length := by omega
    rw [numV, ih (by omega) (by omega), atV_in hlt (by omega)]
    have hm : l.getD (p + c) 0 < 256 := by
      rw [List.getD_eq_getElem?_getD, List.getElem?_eq_getElem hlt]
      exact hb _ (List.getElem_mem hlt)
    rw [nI_l (by omega), show (256 : Int64) = lN 256 from rfl, lN_mul, lN_add]
    congr 1
    have e : (l.drop p).take (c + 1) = (l.drop p).take c ++ [l.getD (p + c) 0] := by
      rw [List.take_succ, List.getElem?_drop, List.getD_eq_getElem?_getD, List.getElem?_eq_getElem hlt]
      rfl
    rw [e, beV_app]
theorem lp_numberAt {L : Nat} {xs : Nat → Int32} {Post : Option Value → mHeap → Prop} {h : mHeap} {k k' cap : Nat} {l : List Nat} {f : Nat → Int32} (hr : RA h k k' cap l f) {p c : Nat} (hc : c < 1000) (kP : Post (some (.long (numV l p c))) h) : ∀ (n i : Nat), i + n = c → mGo M_Row_numberAt L xs (1, 21) 0 0 Post 0 0 5 [some (.ref k), some (.int (nI p)), some (.int (nI c)), some (.long (numV l p i)), none, some (.int (nI i))] [] h := by
  intro n
  induction n with
  | zero =>
    intro i hi
    refine mj_iload d_Row_numberAt_5 rfl ?_
    refine mj_iload_n d_Row_numberAt_7 rfl ?_
    refine mj_icmpge d_Row_numberAt_8 33 rfl (fun c_8 => ?_) (fun c_8 => ?_)
    · refine mj_lload_n d_Row_numberAt_33 rfl ?_
      refine mj_lret d_Row_numberAt_34 rfl (Nat.le_refl _) (Nat.le_refl _) ?_
      rw [show i = c by omega]
      exact kP
    · exact absurd (nI_le (by omega) (by omega)) c_8
  | succ n ih =>
    intro i hi
    refine mj_iload d_Row_numberAt_5 rfl ?_
    refine mj_iload_n d_Row_numberAt_7 rfl ?_
    refine mj_icmpge d_Row_numberAt_8 33 rfl (fun c_8 => ?_) (fun c_8 => ?_)
    · exact absurd c_8 (nI_ge (by omega) (by omega))
    · refine mj_lload_n d_Row_numberAt_11 rfl ?_
      refine mj_ldc2 d_Row_numberAt_12 256 q_239 ?_
      refine mj_lmul d_Row_numberAt_15 ?_
      refine mj_aload_n d_Row_numberAt_16 rfl ?_
      refine mj_iload_n d_Row_numberAt_17 rfl ?_
      refine mj_iload d_Row_numberAt_18 rfl ?_
      refine mj_iadd d_Row_numberAt_20 ?_
      rw [nI_add]
      refine mj_virtual (d' := (0, 0)) (mc := 0) (ms := 0) (As := [_]) d_Row_numberAt_21 cw_Row_at q_240 q_229 q_230 (ci := 0) rfl hr.1 rfl rfl (mRoomB rfl) ?_
      refine s_Row_at hr ?_
      refine mj_i2l d_Row_numberAt_24 ?_
      refine mj_ladd d_Row_numberAt_25 ?_
      refine mj_lstore_n d_Row_numberAt_26 (by decide) ?_
      dsimp only [mSt1, mSt2, mKill, Nat.reduceAdd]
      refine mj_iinc d_Row_numberAt_27 rfl (by decide) (nI (i + 1)) (nI_1 i) ?_
      dsimp only [mSt1, mSt2, mKill, Nat.reduceAdd]
      refine mj_goto d_Row_numberAt_30 5 rfl ?_
      exact ih (i + 1) (by omega)
theorem s_Row_numberAt {L : Nat} {xs : Nat → Int32} {Post : Option Value → mHeap → Prop} {h : mHeap} {k k' cap : Nat} {l : List Nat} {f : Nat → Int32} (hr : RA h k k' cap l f) {p c : Nat} (hc : c < 1000) (kP : Post (some (.long (numV l p c))) h) : mMet M_Row_numberAt L xs (1, 21) 0 0 [.ref k, .int (nI p), .int (nI c)] h Post := by
  refine mMet_of rfl (Nat.le_of_ble_eq_true rfl) ?_
  refine mj_lconst d_Row_numberAt_0 0 (by decide) ?_
  refine mj_lstore_n d_Row_numberAt_1 (by decide) ?_
  dsimp only [mSt1, mSt2, mKill, Nat.reduceAdd]
  refine mj_iconst d_Row_numberAt_2 0 (by decide) ?_
  refine mj_istore d_Row_numberAt_3 (by decide) ?_
  dsimp only [mSt1, mSt2, mKill, Nat.reduceAdd]
  exact lp_numberAt hr hc kP c 0 (by omega)
