abbrev cFil : mCell := .inr (2, [.ref 13, .ref 14, .ref 15])
/-- the files: how many records each has, and the records by number -/
def FR (cnt : Nat → Nat) (rc : Nat → List Nat) (fb fs fc : Nat → Int32) : Prop := FA 4 cnt fc ∧ (∀ f, f < 4 → cnt f ≤ 3) ∧ ∀ f j, f < 4 → j < cnt f → 1 ≤ (rc (3 * f + j)).length ∧ (rc (3 * f + j)).length ≤ 30 ∧ (∀ b ∈ rc (3 * f + j), b < 256) ∧ fs (3 * f + j) = nI (rc (3 * f + j)).length ∧ ∀ i, i < (rc (3 * f + j)).length → fb (30 * (3 * f + j) + i) = nI ((rc (3 * f + j)).getD i 0)
theorem v14 {v : Int32} (h1 : ¬ v < nI 1) (h2 : ¬ nI 4 < v) : ∃ k : Nat, k < 4 ∧ v = nI (k + 1) := by
  have e : (nI 1).toInt = 1 := by decide
  have h0 : ¬ v < 0 := fun z => h1 (by rw [Int32.lt_iff_toInt_lt] at z ⊢; rw [e]; rw [Int32.toInt_zero] at z; omega)
  obtain ⟨j, hj, rfl⟩ := nI_of h0
  rw [nI_ltI hj (by decide)] at h1
  rw [nI_ltI (by decide) hj] at h2
  exact ⟨j - 1, by omega, by rw [show j - 1 + 1 = j by omega]⟩
theorem nI_inj {a b : Nat} (ha : a < 2 ^ 31) (hb : b < 2 ^ 31) (h : nI a = nI b) : a = b := (nI_eq ha hb).mp h
theorem FR_keep {cnt : Nat → Nat} {rc : Nat → List Nat} {fb fs fc g : Nat → Int32} {k : Nat} {t : List Nat} (h : FR cnt rc fb fs fc) (hk : k < 4) (hc : cnt k < 3) (ht : 1 ≤ t.length ∧ t.length ≤ 30) (hbt : ∀ b ∈ t, b < 256) (h1 : ∀ j, j < t.length → g (30 * (3 * k + cnt k) + j) = nI (t.getD j 0)) (h2 : ∀ n, n < 30 * (3 * k + cnt k) ∨ 30 * (3 * k + cnt k) + 30 ≤ n → g n = fb n) : FR (va_up cnt k (cnt k + 1)) (va_up rc (3 * k + cnt k) t) g (upd fs (3 * k + cnt k) (nI t.length)) (upd fc k (nI (cnt k + 1))) := by
  obtain ⟨a1, a2, a3⟩ := h
  refine ⟨fun j hj => ?_, fun f hf => ?_, fun f j hf hj => ?_⟩
  · by_cases e : j = k
    · subst e; rw [pk_us]; simp [va_up]
    · rw [pk_un e, a1 j hj]; simp [va_up, e]
  · by_cases e : f = k
    · subst e; simp [va_up]; omega
    · simp [va_up, e]; exact a2 f hf
  · by_cases e : f = k
    · subst e
      have hj2 : j < cnt f + 1 := by simpa [va_up] using hj
      by_cases e2 : j = cnt f
      · subst e2
        rw [pk_us]
        simp only [va_up, if_pos]
        exact ⟨ht.1, ht.2, hbt, trivial, h1⟩
      · have n1 : ¬ 3 * f + j = 3 * f + cnt f := by omega
        rw [pk_un n1]
        simp only [va_up, if_neg n1]
        obtain ⟨b1, b2, b3, b4, b5⟩ := a3 f j hf (by omega)
        exact ⟨b1, b2, b3, b4, fun i hi => by rw [h2 _ (by omega)]; exact b5 i hi⟩
    · have hj2 : j < cnt f := by simpa [va_up, e] using hj
      have l1 := a2 f hf
      have n1 : ¬ 3 * f + j = 3 * k + cnt k := by omega
      rw [pk_un n1]
      simp only [va_up, if_neg n1]
      obtain ⟨b1, b2, b3, b4, b5⟩ := a3 f j hf hj2
      exact ⟨b1, b2, b3, b4, fun i hi => by rw [h2 _ (by omega)]; exact b5 i hi⟩
theorem s_Fil_count {L : Nat} {xs : Nat → Int32} {Post : Option Value → mHeap → Prop} {h : mHeap} {cnt : Nat → Nat} {fc : Nat → Int32} (h12 : h[12]? = some cFil) (h15 : h[15]? = some (cArr 4 fc)) (hc : FA 4 cnt fc) {k : Nat} (hk : k < 4) (kP : Post (some (.int (nI (cnt k)))) h) : mMet M_Fil_count L xs (0, 0) 0 0 [.ref 12, .int (nI (k + 1))] h Post := by
  refine mMet_of rfl (Nat.le_of_ble_eq_true rfl) ?_
  refine mj_iload_n d_Fil_count_0 rfl ?_
  refine mj_iconst d_Fil_count_1 (nI 1) (by decide) ?_
  refine mj_icmpltN d_Fil_count_2 21 rfl (by omega) (fun c_2 => ?_) (fun c_2 => ?_)
  · omega
  · refine mj_iload_n d_Fil_count_5 rfl ?_
    refine mj_iconst d_Fil_count_6 (nI 4) (by decide) ?_
    refine mj_icmpgtN d_Fil_count_7 21 rfl (by omega) (fun c_7 => ?_) (fun c_7 => ?_)
    · omega
    · refine mj_aload_n d_Fil_count_10 rfl ?_
      refine mj_get d_Fil_count_11 fd_Fil_18 h12 rfl ?_
      refine mj_iload_n d_Fil_count_14 rfl ?_
      refine mj_iconst d_Fil_count_15 (nI 1) (by decide) ?_
      refine mj_isub d_Fil_count_16 ?_
      rw [pk_sub (by omega), Nat.add_sub_cancel]
      refine mj_ialdN d_Fil_count_17 h15 (by omega) ?_
      rw [hc _ hk]
      refine mj_goto d_Fil_count_18 22 rfl ?_
      refine mj_iret d_Fil_count_22 rfl rfl (Nat.le_refl _) (Nat.le_refl _) ?_
      exact kP
theorem s_Fil_countO {L : Nat} {xs : Nat → Int32} {Post : Option Value → mHeap → Prop} {h : mHeap} {m : Nat} (hm : m = 0 ∨ 4 < m) (hm2 : m < 1000) (kP : Post (some (.int (nI 0))) h) : mMet M_Fil_count L xs (0, 0) 0 0 [.ref 12, .int (nI m)] h Post := by
  refine mMet_of rfl (Nat.le_of_ble_eq_true rfl) ?_
  refine mj_iload_n d_Fil_count_0 rfl ?_
  refine mj_iconst d_Fil_count_1 (nI 1) (by decide) ?_
  refine mj_icmpltN d_Fil_count_2 21 rfl (by omega) (fun c_2 => ?_) (fun c_2 => ?_)
  · refine mj_iconst d_Fil_count_21 (nI 0) (by decide) ?_
    refine mj_iret d_Fil_count_22 rfl rfl (Nat.le_refl _) (Nat.le_refl _) ?_
    exact kP
  · refine mj_iload_n d_Fil_count_5 rfl ?_
    refine mj_iconst d_Fil_count_6 (nI 4) (by decide) ?_
    refine mj_icmpgtN d_Fil_count_7 21 rfl (by omega) (fun c_7 => ?_) (fun c_7 => ?_)
    · refine mj_iconst d_Fil_count_21 (nI 0) (by decide) ?_
      refine mj_iret d_Fil_count_22 rfl rfl (Nat.le_refl _) (Nat.le_refl _) ?_
      exact kP
    · omega
theorem lp_store {L : Nat} {xs : Nat → Int32} {Post : Option Value → mHeap → Prop} {h : mHeap} {cnt : Nat → Nat} {rc : Nat → List Nat} {fb fs fc tf : Nat → Int32} {t : List Nat} (h12 : h[12]? = some cFil) (h13 : h[13]? = some (cArr 360 fb)) (h14 : h[14]? = some (cArr 12 fs)) (h15 : h[15]? = some (cArr 4 fc)) (hF : FR cnt rc fb fs fc) (hr : RA h 1 2 40 t tf) {k : Nat} (hk : k < 4) (hck : cnt k < 3) (ht : 1 ≤ t.length ∧ t.length ≤ 30) (kT : ∀ g : Nat → Int32, (∀ j, j < t.length → g (30 * (3 * k + cnt k) + j) = nI (t.getD j 0)) → (∀ n, n < 30 * (3 * k + cnt k) ∨ 30 * (3 * k + cnt k) + 30 ≤ n → g n = fb n) → Post (some (.int (nI 1))) (((h.set 13 (cArr 360 g)).set 14 (cArr 12 (upd fs (3 * k + cnt k) (nI t.length)))).set 15 (cArr 4 (upd fc k (nI (cnt k + 1)))))) : ∀ (m i : Nat) (g : Nat → Int32), i + m = t.length → (∀ j, j < i → g (30 * (3 * k + cnt k) + j) = nI (t.getD j 0)) → (∀ n, n < 30 * (3 * k + cnt k) ∨ 30 * (3 * k + cnt k) + 30 ≤ n → g n = fb n) → mGo M_Fil_store L xs (1, 21) 0 0 Post 0 0 55 [some (.ref 12), some (.int (nI (k + 1))), some (.ref 1), some (.int (nI (3 * k + cnt k))), some (.int (nI i))] [] (h.set 13 (cArr 360 g)) := by
  intro m
  induction m with
  | zero =>
    intro i g hi h1 h2
    refine mj_iload d_Fil_store_55 rfl ?_
    refine mj_aload_n d_Fil_store_57 rfl ?_
    refine mj_virtual (d' := (0, 0)) (mc := 0) (ms := 0) (As := []) d_Fil_store_58 cw_Row_size q_378 q_204 q_205 (ci := 0) rfl (gne hr.1 (by decide)) rfl rfl (mRoomB rfl) ?_
    refine s_Row_size (⟨gne hr.1 (by decide), gne hr.2.1 (by decide), hr.2.2⟩ : RA (h.set 13 (cArr 360 g)) 1 2 40 t tf) ?_
    refine mj_icmpgeN d_Fil_store_61 88 rfl (by omega) (fun c_61 => ?_) (fun c_61 => ?_)
    · refine mj_aload_n d_Fil_store_88 rfl ?_
      refine mj_get d_Fil_store_89 fd_Fil_15 (gne h12 (by decide)) rfl ?_
      refine mj_iload_n d_Fil_store_92 rfl ?_
      refine mj_aload_n d_Fil_store_93 rfl ?_
      refine mj_virtual (d' := (0, 0)) (mc := 0) (ms := 0) (As := []) d_Fil_store_94 cw_Row_size q_378 q_204 q_205 (ci := 0) rfl (gne hr.1 (by decide)) rfl rfl (mRoomB rfl) ?_
      refine s_Row_size (⟨gne hr.1 (by decide), gne hr.2.1 (by decide), hr.2.2⟩ : RA (h.set 13 (cArr 360 g)) 1 2 40 t tf) ?_
      refine mj_iastN d_Fil_store_97 (gne h14 (by decide)) (by omega) ?_
      refine mj_aload_n d_Fil_store_98 rfl ?_
      refine mj_get d_Fil_store_99 fd_Fil_18 (gne (gne h12 (by decide)) (by decide)) rfl ?_
      refine mj_iload_n d_Fil_store_102 rfl ?_
      refine mj_iconst d_Fil_store_103 (nI 1) (by decide) ?_
      refine mj_isub d_Fil_store_104 ?_
      rw [pk_sub (by omega), Nat.add_sub_cancel]
      refine mj_dup2 d_Fil_store_105 rfl rfl ?_
      refine mj_ialdN d_Fil_store_106 (gne (gne h15 (by decide)) (by decide)) (by omega) ?_
      rw [hF.1 k hk]
      refine mj_iconst d_Fil_store_107 (nI 1) (by decide) ?_
      refine mj_iadd d_Fil_store_108 ?_
      rw [nI_add]
      refine mj_iastN d_Fil_store_109 (gne (gne h15 (by decide)) (by decide)) (by omega) ?_
      refine mj_iconst d_Fil_store_110 (nI 1) (by decide) ?_
      refine mj_iret d_Fil_store_111 rfl rfl (Nat.le_refl _) (Nat.le_refl _) ?_
      exact kT g (fun j hj => h1 j (by omega)) h2
    · omega
  | succ m ih =>
    intro i g hi h1 h2
    refine mj_iload d_Fil_store_55 rfl ?_
    refine mj_aload_n d_Fil_store_57 rfl ?_
    refine mj_virtual (d' := (0, 0)) (mc := 0) (ms := 0) (As := []) d_Fil_store_58 cw_Row_size q_378 q_204 q_205 (ci := 0) rfl (gne hr.1 (by decide)) rfl rfl (mRoomB rfl) ?_
    refine s_Row_size (⟨gne hr.1 (by decide), gne hr.2.1 (by decide), hr.2.2⟩ : RA (h.set 13 (cArr 360 g)) 1 2 40 t tf) ?_
    refine mj_icmpgeN d_Fil_store_61 88 rfl (by omega) (fun c_61 => ?_) (fun c_61 => ?_)
    · omega
    · refine mj_aload_n d_Fil_store_64 rfl ?_
      refine mj_get d_Fil_store_65 fd_Fil_9 (gne h12 (by decide)) rfl ?_
      refine mj_iload_n d_Fil_store_68 rfl ?_
      refine mj_bipush d_Fil_store_69 (nI 30) (by decide) ?_
      refine mj_imul d_Fil_store_71 ?_
      refine mj_iload d_Fil_store_72 rfl ?_
      refine mj_iadd d_Fil_store_74 ?_
      rw [pk_mul, nI_add, Nat.mul_comm (3 * k + cnt k) 30]
      refine mj_aload_n d_Fil_store_75 rfl ?_
      refine mj_iload d_Fil_store_76 rfl ?_
      refine mj_virtual (d' := (0, 0)) (mc := 0) (ms := 0) (As := [_]) d_Fil_store_78 cw_Row_at q_379 q_229 q_230 (ci := 0) rfl (gne hr.1 (by decide)) rfl rfl (mRoomB rfl) ?_
      refine s_Row_at (⟨gne hr.1 (by decide), gne hr.2.1 (by decide), hr.2.2⟩ : RA (h.set 13 (cArr 360 g)) 1 2 40 t tf) ?_
      rw [atV_in (by omega) (by omega)]
      refine mj_iastN d_Fil_store_81 (gself h13) (by omega) ?_
      rw [List.set_set]
      refine mj_iinc d_Fil_store_82 rfl (by decide) (nI (i + 1)) (nI_1 i) ?_
      dsimp only [mSt1, mSt2, mKill, Nat.reduceAdd]
      refine mj_goto d_Fil_store_85 55 rfl ?_
      refine ih (i + 1) _ (by omega) (fun j hj => ?_) (fun n hn => ?_)
      · by_cases e : j = i
        · subst e; exact pk_us
        · rw [pk_un (by omega)]; exact h1 j (by omega)
      · rw [pk_un (by omega)]; exact h2 n hn
theorem s_Fil_store {L : Nat} {xs : Nat → Int32} {Post : Option Value → mHeap → Prop} {h : mHeap} {cnt : Nat → Nat} {rc : Nat → List Nat} {fb fs fc tf : Nat → Int32} {t : List Nat} (h12 : h[12]? = some cFil) (h13 : h[13]? = some (cArr 360 fb)) (h14 : h[14]? = some (cArr 12 fs)) (h15 : h[15]? = some (cArr 4 fc)) (hF : FR cnt rc fb fs fc) (hr : RA h 1 2 40 t tf) {v : Int32} (kF : (¬ ∃ k, k < 4 ∧ v = nI (k + 1) ∧ cnt k < 3 ∧ 1 ≤ t.length ∧ t.length ≤ 30) → Post (some (.int (nI 0))) h) (kT : ∀ k, k < 4 → v = nI (k + 1) → cnt k < 3 → (1 ≤ t.length ∧ t.length ≤ 30) → ∀ g : Nat → Int32, (∀ j, j < t.length → g (30 * (3 * k + cnt k) + j) = nI (t.getD j 0)) → (∀ n, n < 30 * (3 * k + cnt k) ∨ 30 * (3 * k + cnt k) + 30 ≤ n → g n = fb n) → Post (some (.int (nI 1))) (((h.set 13 (cArr 360 g)).set 14 (cArr 12 (upd fs (3 * k + cnt k) (nI t.length)))).set 15 (cArr 4 (upd fc k (nI (cnt k + 1)))))) : mMet M_Fil_store L xs (1, 21) 0 0 [.ref 12, .int v, .ref 1] h Post := by
  refine mMet_of rfl (Nat.le_of_ble_eq_true rfl) ?_
  have hcap := hr.2.2.2.1
  refine mj_iload_n d_Fil_store_0 rfl ?_
  refine mj_iconst d_Fil_store_1 (nI 1) (by decide) ?_
  refine mj_icmplt d_Fil_store_2 19 rfl (fun c_2 => ?_) (fun c_2 => ?_)
  · refine mj_iconst d_Fil_store_19 (nI 0) (by decide) ?_
    refine mj_iret d_Fil_store_20 rfl rfl (Nat.le_refl _) (Nat.le_refl _) ?_
    refine kF (fun z => ?_)
    obtain ⟨j, z1, z2, z3, z4⟩ := z
    first
      | (rw [z2, nI_ltI (by omega) (by decide)] at c_2; omega)
      | (rw [z2, nI_ltI (by decide) (by omega)] at c_7; omega)
      | (have := nI_inj (by omega) (by omega) z2; obtain rfl : k = j := by omega
         omega)
  · refine mj_iload_n d_Fil_store_5 rfl ?_
    refine mj_iconst d_Fil_store_6 (nI 4) (by decide) ?_
    refine mj_icmpgt d_Fil_store_7 19 rfl (fun c_7 => ?_) (fun c_7 => ?_)
    · refine mj_iconst d_Fil_store_19 (nI 0) (by decide) ?_
      refine mj_iret d_Fil_store_20 rfl rfl (Nat.le_refl _) (Nat.le_refl _) ?_
      refine kF (fun z => ?_)
      obtain ⟨j, z1, z2, z3, z4⟩ := z
      first
        | (rw [z2, nI_ltI (by omega) (by decide)] at c_2; omega)
        | (rw [z2, nI_ltI (by decide) (by omega)] at c_7; omega)
        | (have := nI_inj (by omega) (by omega) z2; obtain rfl : k = j := by omega
           omega)
    · obtain ⟨k, hk, rfl⟩ := v14 c_2 c_7
      have hck := hF.2.1 k hk
      refine mj_aload_n d_Fil_store_10 rfl ?_
      refine mj_iload_n d_Fil_store_11 rfl ?_
      refine mj_virtual (d' := (0, 0)) (mc := 0) (ms := 0) (As := [_]) d_Fil_store_12 cw_Fil_count q_305 q_293 q_294 (ci := 2) rfl h12 rfl rfl (mRoomB rfl) ?_
      refine s_Fil_count h12 h15 hF.1 hk ?_
      refine mj_iconst d_Fil_store_15 (nI 3) (by decide) ?_
      refine mj_icmpltN d_Fil_store_16 21 rfl (by omega) (fun c_16 => ?_) (fun c_16 => ?_)
      · refine mj_aload_n d_Fil_store_21 rfl ?_
        refine mj_virtual (d' := (0, 0)) (mc := 0) (ms := 0) (As := []) d_Fil_store_22 cw_Row_size q_378 q_204 q_205 (ci := 0) rfl hr.1 rfl rfl (mRoomB rfl) ?_
        refine s_Row_size hr ?_
        refine mj_iconst d_Fil_store_25 (nI 1) (by decide) ?_
        refine mj_icmpltN d_Fil_store_26 38 rfl (by omega) (fun c_26 => ?_) (fun c_26 => ?_)
        · refine mj_iconst d_Fil_store_38 (nI 0) (by decide) ?_
          refine mj_iret d_Fil_store_39 rfl rfl (Nat.le_refl _) (Nat.le_refl _) ?_
          refine kF (fun z => ?_)
          obtain ⟨j, z1, z2, z3, z4⟩ := z
          omega
        · refine mj_aload_n d_Fil_store_29 rfl ?_
          refine mj_virtual (d' := (0, 0)) (mc := 0) (ms := 0) (As := []) d_Fil_store_30 cw_Row_size q_378 q_204 q_205 (ci := 0) rfl hr.1 rfl rfl (mRoomB rfl) ?_
          refine s_Row_size hr ?_
          refine mj_bipush d_Fil_store_33 (nI 30) (by decide) ?_
          refine mj_icmpleN d_Fil_store_35 40 rfl (by omega) (fun c_35 => ?_) (fun c_35 => ?_)
          · refine mj_iload_n d_Fil_store_40 rfl ?_
            refine mj_iconst d_Fil_store_41 (nI 1) (by decide) ?_
            refine mj_isub d_Fil_store_42 ?_
            rw [pk_sub (by omega), Nat.add_sub_cancel]
            refine mj_iconst d_Fil_store_43 (nI 3) (by decide) ?_
            refine mj_imul d_Fil_store_44 ?_
            rw [pk_mul, Nat.mul_comm k 3]
            refine mj_aload_n d_Fil_store_45 rfl ?_
            refine mj_iload_n d_Fil_store_46 rfl ?_
            refine mj_virtual (d' := (0, 0)) (mc := 0) (ms := 0) (As := [_]) d_Fil_store_47 cw_Fil_count q_305 q_293 q_294 (ci := 2) rfl h12 rfl rfl (mRoomB rfl) ?_
            refine s_Fil_count h12 h15 hF.1 hk ?_
            refine mj_iadd d_Fil_store_50 ?_
            rw [nI_add]
            refine mj_istore_n d_Fil_store_51 (by decide) ?_
            dsimp only [mSt1, mSt2, mKill, Nat.reduceAdd]
            refine mj_iconst d_Fil_store_52 (nI 0) (by decide) ?_
            refine mj_istore d_Fil_store_53 (by decide) ?_
            dsimp only [mSt1, mSt2, mKill, Nat.reduceAdd]
            have e := lp_store h12 h13 h14 h15 hF hr hk (by omega) (by omega) (kT k hk rfl (by omega) (by omega)) (L := L) (xs := xs) t.length 0 fb (by omega) (fun j hj => by omega) (fun n _ => rfl)
            rw [set_same h13] at e
            exact e
          · refine mj_iconst d_Fil_store_38 (nI 0) (by decide) ?_
            refine mj_iret d_Fil_store_39 rfl rfl (Nat.le_refl _) (Nat.le_refl _) ?_
            refine kF (fun z => ?_)
            obtain ⟨j, z1, z2, z3, z4⟩ := z
            omega
      · refine mj_iconst d_Fil_store_19 (nI 0) (by decide) ?_
        refine mj_iret d_Fil_store_20 rfl rfl (Nat.le_refl _) (Nat.le_refl _) ?_
        refine kF (fun z => ?_)
        obtain ⟨j, z1, z2, z3, z4⟩ := z
        first
          | (rw [z2, nI_ltI (by omega) (by decide)] at c_2; omega)
          | (rw [z2, nI_ltI (by decide) (by omega)] at c_7; omega)
          | (have := nI_inj (by omega) (by omega) z2; obtain rfl : k = j := by omega
             omega)
theorem lp_copy {L : Nat} {xs : Nat → Int32} {Post : Option Value → mHeap → Prop} {h : mHeap} {cnt : Nat → Nat} {rc : Nat → List Nat} {fb fs fc rf : Nat → Int32} {r : List Nat} (h12 : h[12]? = some cFil) (h13 : h[13]? = some (cArr 360 fb)) (h14 : h[14]? = some (cArr 12 fs)) (h15 : h[15]? = some (cArr 4 fc)) (hF : FR cnt rc fb fs fc) (hr : RA h 3 4 32 r rf) {f j : Nat} (hf4 : f < 4) (hj : j < cnt f) (hl : r.length + (rc (3 * f + j)).length ≤ 32) (kP : ∀ g, Rf (r ++ rc (3 * f + j)) g → Post none (rPut h 3 4 32 (r ++ rc (3 * f + j)) g)) : ∀ (m i : Nat) (g : Nat → Int32), i + m = (rc (3 * f + j)).length → Rf (r ++ (rc (3 * f + j)).take i) g → mGo M_Fil_copy L xs (1, 21) 0 0 Post 0 0 29 [some (.ref 12), some (.int (nI (f + 1))), some (.int (nI (j + 1))), some (.ref 3), some (.int (nI (3 * f + j))), some (.int (nI i))] [] (rPut h 3 4 32 (r ++ (rc (3 * f + j)).take i) g) := by
  intro m
  obtain ⟨b1, b2, b3, b4, b5⟩ := hF.2.2 f j hf4 hj
  have hc3 := hF.2.1 f hf4
  induction m with
  | zero =>
    intro i g hi hg
    refine mj_iload d_Fil_copy_29 rfl ?_
    refine mj_aload_n d_Fil_copy_31 rfl ?_
    refine mj_get d_Fil_copy_32 fd_Fil_15 ((rPut_get (by decide) (by decide)).trans h12) rfl ?_
    refine mj_iload d_Fil_copy_35 rfl ?_
    refine mj_ialdN d_Fil_copy_37 ((rPut_get (by decide) (by decide)).trans h14) (by omega) ?_
    rw [b4]
    refine mj_icmpgeN d_Fil_copy_38 65 rfl (by omega) (fun c_38 => ?_) (fun c_38 => ?_)
    · refine mj_vret d_Fil_copy_65 rfl (Nat.le_refl _) (Nat.le_refl _) ?_
      rw [List.take_of_length_le (by omega)] at hg ⊢
      exact kP g hg
    · omega
  | succ m ih =>
    intro i g hi hg
    refine mj_iload d_Fil_copy_29 rfl ?_
    refine mj_aload_n d_Fil_copy_31 rfl ?_
    refine mj_get d_Fil_copy_32 fd_Fil_15 ((rPut_get (by decide) (by decide)).trans h12) rfl ?_
    refine mj_iload d_Fil_copy_35 rfl ?_
    refine mj_ialdN d_Fil_copy_37 ((rPut_get (by decide) (by decide)).trans h14) (by omega) ?_
    rw [b4]
    refine mj_icmpgeN d_Fil_copy_38 65 rfl (by omega) (fun c_38 => ?_) (fun c_38 => ?_)
    · omega
    · refine mj_aload_n d_Fil_copy_41 rfl ?_
      refine mj_aload_n d_Fil_copy_42 rfl ?_
      refine mj_get d_Fil_copy_43 fd_Fil_9 ((rPut_get (by decide) (by decide)).trans h12) rfl ?_
      refine mj_iload d_Fil_copy_46 rfl ?_
      refine mj_bipush d_Fil_copy_48 (nI 30) (by decide) ?_
      refine mj_imul d_Fil_copy_50 ?_
      refine mj_iload d_Fil_copy_51 rfl ?_
      refine mj_iadd d_Fil_copy_53 ?_
      rw [pk_mul, nI_add, Nat.mul_comm (3 * f + j) 30]
      refine mj_ialdN d_Fil_copy_54 ((rPut_get (by decide) (by decide)).trans h13) (by omega) ?_
      rw [b5 i (by omega)]
      refine mj_virtual (d' := (0, 0)) (mc := 0) (ms := 0) (As := [_]) d_Fil_copy_55 cw_Row_add q_306 q_137 q_138 (ci := 0) rfl (RA_put hr hg (by simp; omega)).1 rfl rfl (mRoomB rfl) ?_
      refine s_Row_add (RA_put hr hg (by simp; omega)) (fun z => by simp at z; omega) (fun _ g2 hg2 => ?_)
      rw [rPut_rPut hr.2.2.2.2.2, List.append_assoc, take_s (by omega)]
      rw [List.append_assoc, take_s (by omega)] at hg2
      refine mj_pop d_Fil_copy_58 rfl ?_
      refine mj_iinc d_Fil_copy_59 rfl (by decide) (nI (i + 1)) (nI_1 i) ?_
      dsimp only [mSt1, mSt2, mKill, Nat.reduceAdd]
      refine mj_goto d_Fil_copy_62 29 rfl ?_
      exact ih (i + 1) g2 (by omega) hg2
theorem s_Fil_copy {L : Nat} {xs : Nat → Int32} {Post : Option Value → mHeap → Prop} {h : mHeap} {cnt : Nat → Nat} {rc : Nat → List Nat} {fb fs fc rf : Nat → Int32} {r : List Nat} (h12 : h[12]? = some cFil) (h13 : h[13]? = some (cArr 360 fb)) (h14 : h[14]? = some (cArr 12 fs)) (h15 : h[15]? = some (cArr 4 fc)) (hF : FR cnt rc fb fs fc) (hr : RA h 3 4 32 r rf) {f j : Nat} (hf4 : f < 4) (hj : j < cnt f) (hl : r.length + (rc (3 * f + j)).length ≤ 32) (kP : ∀ g, Rf (r ++ rc (3 * f + j)) g → Post none (rPut h 3 4 32 (r ++ rc (3 * f + j)) g)) : mMet M_Fil_copy L xs (1, 21) 0 0 [.ref 12, .int (nI (f + 1)), .int (nI (j + 1)), .ref 3] h Post := by
  refine mMet_of rfl (Nat.le_of_ble_eq_true rfl) ?_
  have hc3 := hF.2.1 f hf4
  refine mj_iload_n d_Fil_copy_0 rfl ?_
  refine mj_iconst d_Fil_copy_1 (nI 1) (by decide) ?_
  refine mj_icmpltN d_Fil_copy_2 14 rfl (by omega) (fun c_2 => ?_) (fun c_2 => ?_)
  · omega
  · refine mj_iload_n d_Fil_copy_5 rfl ?_
    refine mj_aload_n d_Fil_copy_6 rfl ?_
    refine mj_iload_n d_Fil_copy_7 rfl ?_
    refine mj_virtual (d' := (0, 0)) (mc := 0) (ms := 0) (As := [_]) d_Fil_copy_8 cw_Fil_count q_305 q_293 q_294 (ci := 2) rfl h12 rfl rfl (mRoomB rfl) ?_
    refine s_Fil_count h12 h15 hF.1 hf4 ?_
    refine mj_icmpleN d_Fil_copy_11 15 rfl (by omega) (fun c_11 => ?_) (fun c_11 => ?_)
    · refine mj_iload_n d_Fil_copy_15 rfl ?_
      refine mj_iconst d_Fil_copy_16 (nI 1) (by decide) ?_
      refine mj_isub d_Fil_copy_17 ?_
      rw [pk_sub (by omega), Nat.add_sub_cancel]
      refine mj_iconst d_Fil_copy_18 (nI 3) (by decide) ?_
      refine mj_imul d_Fil_copy_19 ?_
      rw [pk_mul, Nat.mul_comm f 3]
      refine mj_iload_n d_Fil_copy_20 rfl ?_
      refine mj_iadd d_Fil_copy_21 ?_
      rw [nI_add]
      refine mj_iconst d_Fil_copy_22 (nI 1) (by decide) ?_
      refine mj_isub d_Fil_copy_23 ?_
      rw [pk_sub (by omega), show 3 * f + (j + 1) - 1 = 3 * f + j by omega]
      refine mj_istore d_Fil_copy_24 (by decide) ?_
      dsimp only [mSt1, mSt2, mKill, Nat.reduceAdd]
      refine mj_iconst d_Fil_copy_26 (nI 0) (by decide) ?_
      refine mj_istore d_Fil_copy_27 (by decide) ?_
      dsimp only [mSt1, mSt2, mKill, Nat.reduceAdd]
      have e := lp_copy h12 h13 h14 h15 hF hr hf4 hj hl kP (L := L) (xs := xs) (rc (3 * f + j)).length 0 rf (by omega) (by rw [List.take_zero, List.append_nil]; exact hr.2.2.1)
      rw [List.take_zero, List.append_nil, rPut_self hr] at e
      exact e
    · omega
