/-- the same, with the row of entries -/
def CWl (li t r nm : List Nat) (cnt : Nat → Nat) (rc : Nat → List Nat) (rk : Nat → Nat) (co cu tr an sg am pv : Nat) (tl h : mHeap) : Prop := ∃ (pd : List Nat) (tf rf lf nf pf ef fb fs fc frk fw ff fx ft : Nat → Int32), CR t r li nm pd tf rf lf nf pf fb fs fc frk fw ff cnt rc rk ∧ h = (mkC t r li nm pd tf rf lf nf pf ef fb fs fc frk fw ff fx ft co cu tr an sg am pv ++ tl)
theorem CWl_of {t r li nm pd : List Nat} {tf rf lf nf pf ef fb fs fc frk fw ff fx ft : Nat → Int32} {co cu tr an sg am pv : Nat} {tl : mHeap} {cnt : Nat → Nat} {rc : Nat → List Nat} {rk : Nat → Nat} (hC : CR t r li nm pd tf rf lf nf pf fb fs fc frk fw ff cnt rc rk) : CWl li t r nm cnt rc rk co cu tr an sg am pv tl (mkC t r li nm pd tf rf lf nf pf ef fb fs fc frk fw ff fx ft co cu tr an sg am pv ++ tl) := ⟨pd, tf, rf, lf, nf, pf, ef, fb, fs, fc, frk, fw, ff, fx, ft, hC, rfl⟩
theorem CW_l {li t r nm : List Nat} {cnt : Nat → Nat} {rc : Nat → List Nat} {rk : Nat → Nat} {co cu tr an sg am pv : Nat} {tl h : mHeap} (h1 : CWl li t r nm cnt rc rk co cu tr an sg am pv tl h) : CW t r nm cnt rc rk co cu tr an sg am pv tl h := ⟨li, h1⟩
abbrev amtOk (a : Int64) : Prop := 0 ≤ a ∧ a ≤ 281474976710655
theorem cmp_lt {a b : Int64} : lg_cmp a b < 0 ↔ a < b := by
  unfold lg_cmp
  simp only [gt_iff_lt]
  by_cases h1 : b < a
  · rw [if_pos h1]
    exact ⟨fun z => absurd z (by decide), fun z => absurd h1 (lg_lt_not z)⟩
  · rw [if_neg h1]
    by_cases h2 : a = b
    · rw [if_pos h2]
      subst h2
      exact ⟨fun z => absurd z (by decide), fun z => absurd z h1⟩
    · rw [if_neg h2]
      refine ⟨fun _ => ?_, fun _ => by decide⟩
      rw [Int64.lt_iff_toInt_lt] at h1 ⊢
      have : a.toInt ≠ b.toInt := fun z => h2 (Int64.toInt_inj.mp z)
      omega
theorem cmp_gt {a b : Int64} : 0 < lg_cmp a b ↔ b < a := by
  unfold lg_cmp
  simp only [gt_iff_lt]
  by_cases h1 : b < a
  · rw [if_pos h1]; exact ⟨fun _ => h1, fun _ => by decide⟩
  · rw [if_neg h1]
    by_cases h2 : a = b
    · rw [if_pos h2]; exact ⟨fun z => absurd z (by decide), fun z => absurd z h1⟩
    · rw [if_neg h2]; exact ⟨fun z => absurd z (by decide), fun z => absurd z h1⟩
theorem l_nlt {a b : Int64} : ¬ a < b ↔ b ≤ a := by rw [Int64.lt_iff_toInt_lt, Int64.le_iff_toInt_le]; omega
theorem s_Pur_isAmount {L : Nat} {xs : Nat → Int32} {Post : Option Value → mHeap → Prop} {h : mHeap} {a : Int64} (kP : Post (some (.int (nI (if amtOk a then 1 else 0)))) h) : mMet M_Pur_isAmount L xs (0, 0) 0 0 [.long a] h Post := by
  refine mMet_of rfl (Nat.le_of_ble_eq_true rfl) ?_
  refine mj_lload_n d_Pur_isAmount_0 rfl ?_
  refine mj_lconst d_Pur_isAmount_1 0 (by decide) ?_
  refine mj_lcmp d_Pur_isAmount_2 ?_
  refine mj_iflt d_Pur_isAmount_3 18 rfl (fun c_3 => ?_) (fun c_3 => ?_)
  · refine mj_iconst d_Pur_isAmount_18 (nI 0) (by decide) ?_
    refine mj_iret d_Pur_isAmount_19 rfl (by decide) (Nat.le_refl _) (Nat.le_refl _) ?_
    first
      | (rw [if0 (fun z => (l_nlt.mpr z.1) (cmp_lt.mp c_3))] at kP; exact kP)
      | (rw [if0 (fun z => (l_nlt.mpr z.2) (cmp_gt.mp c_11))] at kP; exact kP)
      | (rw [if1 ⟨l_nlt.mp (fun z => c_3 (cmp_lt.mpr z)), l_nlt.mp (fun z => c_11 (cmp_gt.mpr z))⟩] at kP; exact kP)
  · refine mj_lload_n d_Pur_isAmount_6 rfl ?_
    refine mj_ldc2 d_Pur_isAmount_7 281474976710655 q_408 ?_
    refine mj_lcmp d_Pur_isAmount_10 ?_
    refine mj_ifgt d_Pur_isAmount_11 18 rfl (fun c_11 => ?_) (fun c_11 => ?_)
    · refine mj_iconst d_Pur_isAmount_18 (nI 0) (by decide) ?_
      refine mj_iret d_Pur_isAmount_19 rfl (by decide) (Nat.le_refl _) (Nat.le_refl _) ?_
      first
        | (rw [if0 (fun z => (l_nlt.mpr z.1) (cmp_lt.mp c_3))] at kP; exact kP)
        | (rw [if0 (fun z => (l_nlt.mpr z.2) (cmp_gt.mp c_11))] at kP; exact kP)
        | (rw [if1 ⟨l_nlt.mp (fun z => c_3 (cmp_lt.mpr z)), l_nlt.mp (fun z => c_11 (cmp_gt.mpr z))⟩] at kP; exact kP)
    · refine mj_iconst d_Pur_isAmount_14 (nI 1) (by decide) ?_
      refine mj_goto d_Pur_isAmount_15 19 rfl ?_
      refine mj_iret d_Pur_isAmount_19 rfl (by decide) (Nat.le_refl _) (Nat.le_refl _) ?_
      first
        | (rw [if0 (fun z => (l_nlt.mpr z.1) (cmp_lt.mp c_3))] at kP; exact kP)
        | (rw [if0 (fun z => (l_nlt.mpr z.2) (cmp_gt.mp c_11))] at kP; exact kP)
        | (rw [if1 ⟨l_nlt.mp (fun z => c_3 (cmp_lt.mpr z)), l_nlt.mp (fun z => c_11 (cmp_gt.mpr z))⟩] at kP; exact kP)
/-- the place of a tag whose row has c bytes; 0 if none -/
def szN (r : List Nat) (tag : Int32) (c : Nat) : Nat := if fk r tag ≠ 0 ∧ r.getD (fk r tag - 1) 0 = c then fk r tag else 0
def sV (n : Nat) : Int32 := if n = 0 then -1 else nI n
theorem szN_spec {r : List Nat} {tag : Int32} {c : Nat} (hl : r.length ≤ 40) : szN r tag c = 0 ∨ (2 ≤ szN r tag c ∧ szN r tag c + c ≤ r.length) := by
  unfold szN
  split
  · next h =>
    rcases (fk_spec (tag := tag) hl).2 with z | ⟨z1, z2⟩
    · exact absurd z h.1
    · right; rw [h.2] at z2; exact ⟨z1, z2⟩
  · exact Or.inl rfl
/-- is the answer genuine -/
abbrev genOk (rk : Nat → Nat) (r : List Nat) (a : Int64) (n : Int32) (pv : Nat) : Prop := amtOk a ∧ r.getD 0 0 = 119 ∧ szN r (nI 40743) 1 ≠ 0 ∧ szN r (nI 40758) 2 ≠ 0 ∧ szN r (nI 40742) 8 ≠ 0 ∧ ∀ i, i < 8 → r.getD (szN r (nI 40742) 8 + i) 0 = sealF rk (payM a n.toInt64 (lN (256 * r.getD (szN r (nI 40758) 2) 0 + r.getD (szN r (nI 40758) 2 + 1) 0)) (r.getD (szN r (nI 40743) 1) 0) pv) i
def genN (rk : Nat → Nat) (r : List Nat) (a : Int64) (n : Int32) (pv : Nat) : Nat := if genOk rk r a n pv then 1 else 0
theorem s_Pur_placeOfSized {L : Nat} {xs : Nat → Int32} {Post : Option Value → mHeap → Prop} {li t r nm : List Nat} {cnt : Nat → Nat} {rc : Nat → List Nat} {rk : Nat → Nat} {co cu tr an sg am pv : Nat} {tl h : mHeap} {v : Int32} {c : Nat} (hA : AI t r nm cnt rc rk co cu tr an sg am pv) (hW : CWl li t r nm cnt rc rk co cu tr an sg am pv tl h) (hc : c < 1000) (kP : ∀ h', CWl li t r nm cnt rc rk co cu tr an sg am pv tl h' → Post (some (.int (sV (szN r v c)))) h') : mMet M_Pur_placeOfSized L xs (2, 50) 0 0 [.ref 0, .int v, .int (nI c)] h Post := by
  obtain ⟨pd, tf, rf, lf, nf, pf, ef, fb, fs, fc, frk, fw, ff, fx, ft, hC, rfl⟩ := hW
  refine mMet_of rfl (Nat.le_of_ble_eq_true rfl) ?_
  have hsp := (fk_spec (l := r) (tag := v) (by have := hA.2.1.2; omega)).2
  refine mj_aload_n d_Pur_placeOfSized_0 rfl ?_
  refine mj_get d_Pur_placeOfSized_1 fd_Pur_27 rfl rfl ?_
  refine mj_iload_n d_Pur_placeOfSized_4 rfl ?_
  refine mj_aload_n d_Pur_placeOfSized_5 rfl ?_
  refine mj_get d_Pur_placeOfSized_6 fd_Pur_18 rfl rfl ?_
  refine mj_virtual (d' := (1, 21)) (mc := 0) (ms := 0) (As := [_, _]) d_Pur_placeOfSized_9 cw_Tag_placeOf q_364 q_365 q_366 (ci := 1) rfl rfl rfl rfl (mRoomB rfl) ?_
  refine s_Tag_placeOf rfl rfl (⟨rfl, rfl, hC.2.1, hA.2.1.2, by decide, by decide⟩) hA.2.1.1 (fun E => ?_) (fk_spec (by have := hA.2.1.2; omega)).1
  rw [show List.set (mkC t r li nm pd tf rf lf nf pf ef fb fs fc frk fw ff fx ft co cu tr an sg am pv ++ tl) 8 (cArr 32 E) = (mkC t r li nm pd tf rf lf nf pf E fb fs fc frk fw ff fx ft co cu tr an sg am pv ++ tl) from rfl]
  refine mj_istore_n d_Pur_placeOfSized_12 (by decide) ?_
  dsimp only [mSt1, mSt2, mKill, Nat.reduceAdd]
  refine mj_iload_n d_Pur_placeOfSized_13 rfl ?_
  refine mj_iconst d_Pur_placeOfSized_14 (-1) (by decide) ?_
  refine mj_icmpeq d_Pur_placeOfSized_15 36 rfl (fun c_15 => ?_) (fun c_15 => ?_)
  · refine mj_iconst d_Pur_placeOfSized_36 (-1) (by decide) ?_
    refine mj_iret d_Pur_placeOfSized_37 rfl rfl (Nat.le_refl _) (Nat.le_refl _) ?_
    first
      | (have hk0 : fk r v = 0 := Decidable.byContradiction (fun z => by rw [fV, if_neg z] at c_15; have := hsp; have := hA.2.1.2; exact nI_neg1 (by omega) c_15)
         have e : sV (szN r v c) = -1 := by unfold szN; rw [if_neg (fun z => z.1 hk0)]; rfl
         rw [e] at kP; exact kP _ (CWl_of hC))
      | (have e : sV (szN r v c) = nI (fk r v) := by unfold szN; rw [if_pos ⟨hk0, c_29⟩, sV, if_neg hk0]
         rw [e] at kP; exact kP _ (CWl_of hC))
      | (have e : sV (szN r v c) = -1 := by unfold szN; rw [if_neg (fun z => c_29 z.2)]; rfl
         rw [e] at kP; exact kP _ (CWl_of hC))
  · have hk0 : fk r v ≠ 0 := fun z => c_15 (by rw [fV, if_pos z])
    have hfv : fV r v = nI (fk r v) := by rw [fV, if_neg hk0]
    rw [hfv]
    refine mj_aload_n d_Pur_placeOfSized_18 rfl ?_
    refine mj_get d_Pur_placeOfSized_19 fd_Pur_18 rfl rfl ?_
    refine mj_iload_n d_Pur_placeOfSized_22 rfl ?_
    refine mj_iconst d_Pur_placeOfSized_23 (nI 1) (by decide) ?_
    refine mj_isub d_Pur_placeOfSized_24 ?_
    rw [pk_sub (by omega)]
    refine mj_virtual (d' := (0, 0)) (mc := 0) (ms := 0) (As := [_]) d_Pur_placeOfSized_25 cw_Row_at q_359 q_229 q_230 (ci := 0) rfl rfl rfl rfl (mRoomB rfl) ?_
    refine s_Row_at (⟨rfl, rfl, hC.2.1, hA.2.1.2, by decide, by decide⟩) ?_
    rw [atV_in (by have := hsp; omega) (by have := hA.2.1.2; omega)]
    refine mj_iload_n d_Pur_placeOfSized_28 rfl ?_
    refine mj_icmpneN d_Pur_placeOfSized_29 36 rfl (by have := getD_lt hA.2.1.1 (fk r v - 1); omega) (fun c_29 => ?_) (fun c_29 => ?_)
    · refine mj_iconst d_Pur_placeOfSized_36 (-1) (by decide) ?_
      refine mj_iret d_Pur_placeOfSized_37 rfl rfl (Nat.le_refl _) (Nat.le_refl _) ?_
      first
        | (have hk0 : fk r v = 0 := Decidable.byContradiction (fun z => by rw [fV, if_neg z] at c_15; have := hsp; have := hA.2.1.2; exact nI_neg1 (by omega) c_15)
           have e : sV (szN r v c) = -1 := by unfold szN; rw [if_neg (fun z => z.1 hk0)]; rfl
           rw [e] at kP; exact kP _ (CWl_of hC))
        | (have e : sV (szN r v c) = nI (fk r v) := by unfold szN; rw [if_pos ⟨hk0, c_29⟩, sV, if_neg hk0]
           rw [e] at kP; exact kP _ (CWl_of hC))
        | (have e : sV (szN r v c) = -1 := by unfold szN; rw [if_neg (fun z => c_29 z.2)]; rfl
           rw [e] at kP; exact kP _ (CWl_of hC))
    · refine mj_iload_n d_Pur_placeOfSized_32 rfl ?_
      refine mj_goto d_Pur_placeOfSized_33 37 rfl ?_
      refine mj_iret d_Pur_placeOfSized_37 rfl rfl (Nat.le_refl _) (Nat.le_refl _) ?_
      first
        | (have hk0 : fk r v = 0 := Decidable.byContradiction (fun z => by rw [fV, if_neg z] at c_15; have := hsp; have := hA.2.1.2; exact nI_neg1 (by omega) c_15)
           have e : sV (szN r v c) = -1 := by unfold szN; rw [if_neg (fun z => z.1 hk0)]; rfl
           rw [e] at kP; exact kP _ (CWl_of hC))
        | (have e : sV (szN r v c) = nI (fk r v) := by unfold szN; rw [if_pos ⟨hk0, c_29⟩, sV, if_neg hk0]
           rw [e] at kP; exact kP _ (CWl_of hC))
        | (have e : sV (szN r v c) = -1 := by unfold szN; rw [if_neg (fun z => c_29 z.2)]; rfl
           rw [e] at kP; exact kP _ (CWl_of hC))
theorem s_Pur_givenByCard {L : Nat} {xs : Nat → Int32} {Post : Option Value → mHeap → Prop} {li t r nm : List Nat} {cnt : Nat → Nat} {rc : Nat → List Nat} {rk : Nat → Nat} {co cu tr an sg am pv : Nat} {tl h : mHeap}  (hA : AI t r nm cnt rc rk co cu tr an sg am pv) (hW : CWl li t r nm cnt rc rk co cu tr an sg am pv tl h) (kP : ∀ h', CWl li t r nm cnt rc rk co cu tr an sg am pv tl h' → Post (some (.int (atV r (fV r (nI 40743))))) h') : mMet M_Pur_givenByCard L xs (2, 50) 0 0 [.ref 0] h Post := by
  obtain ⟨pd, tf, rf, lf, nf, pf, ef, fb, fs, fc, frk, fw, ff, fx, ft, hC, rfl⟩ := hW
  refine mMet_of rfl (Nat.le_of_ble_eq_true rfl) ?_
  refine mj_aload_n d_Pur_givenByCard_0 rfl ?_
  refine mj_get d_Pur_givenByCard_1 fd_Pur_18 rfl rfl ?_
  refine mj_aload_n d_Pur_givenByCard_4 rfl ?_
  refine mj_get d_Pur_givenByCard_5 fd_Pur_27 rfl rfl ?_
  refine mj_ldc d_Pur_givenByCard_8 (nI 40743) q_409 ?_
  refine mj_aload_n d_Pur_givenByCard_10 rfl ?_
  refine mj_get d_Pur_givenByCard_11 fd_Pur_18 rfl rfl ?_
  refine mj_virtual (d' := (1, 21)) (mc := 0) (ms := 0) (As := [_, _]) d_Pur_givenByCard_14 cw_Tag_placeOf q_364 q_365 q_366 (ci := 1) rfl rfl rfl rfl (mRoomB rfl) ?_
  refine s_Tag_placeOf rfl rfl (⟨rfl, rfl, hC.2.1, hA.2.1.2, by decide, by decide⟩) hA.2.1.1 (fun E => ?_) (fk_spec (by have := hA.2.1.2; omega)).1
  rw [show List.set (mkC t r li nm pd tf rf lf nf pf ef fb fs fc frk fw ff fx ft co cu tr an sg am pv ++ tl) 8 (cArr 32 E) = (mkC t r li nm pd tf rf lf nf pf E fb fs fc frk fw ff fx ft co cu tr an sg am pv ++ tl) from rfl]
  refine mj_virtual (d' := (0, 0)) (mc := 0) (ms := 0) (As := [_]) d_Pur_givenByCard_17 cw_Row_at q_359 q_229 q_230 (ci := 0) rfl rfl rfl rfl (mRoomB rfl) ?_
  refine s_Row_at (⟨rfl, rfl, hC.2.1, hA.2.1.2, by decide, by decide⟩) ?_
  refine mj_iret d_Pur_givenByCard_20 rfl rfl (Nat.le_refl _) (Nat.le_refl _) ?_
  exact kP _ (CWl_of hC)
theorem lp_genuine {L : Nat} {xs : Nat → Int32} {Post : Option Value → mHeap → Prop} {t r li nm pd : List Nat} {tf rf lf nf pf ef fb fs fc frk fw ff fx ft : Nat → Int32} {co cu tr an sg am pv : Nat} {tl : mHeap} {cnt : Nat → Nat} {rc : Nat → List Nat} {rk : Nat → Nat} {pd2 : List Nat} {pf2 f1 t1 : Nat → Int32} (hA : AI t r nm cnt rc rk co cu tr an sg am pv) (hC : CR t r li nm pd tf rf lf nf pf fb fs fc frk fw ff cnt rc rk) {s : Nat → Nat} {a : Int64} {n : Int32} {w5 w6 : Option Value} {pv2 : Nat} (hbs : Bt 16 s) (hf1 : FA 16 s f1) (hz : 2 ≤ szN r (nI 40742) 8 ∧ szN r (nI 40742) 8 + 8 ≤ r.length) (kF : (¬ ∀ i, i < 8 → r.getD (szN r (nI 40742) 8 + i) 0 = s i) → Post (some (.int (nI 0))) (mkC t r li nm pd2 tf rf lf nf pf2 ef fb fs fc frk fw ff f1 t1 co cu tr an sg am pv ++ tl)) (kT : (∀ i, i < 8 → r.getD (szN r (nI 40742) 8 + i) 0 = s i) → Post (some (.int (nI 1))) (mkC t r li nm pd2 tf rf lf nf pf2 ef fb fs fc frk fw ff f1 t1 co cu tr an sg am pv ++ tl)) : ∀ (m i : Nat), i + m = 8 → (∀ j, j < i → r.getD (szN r (nI 40742) 8 + j) 0 = s j) → mGo M_Pur_genuine L xs (4, 111) 0 0 Post 0 0 116 [some (.ref 0), some (.long a), none, some (.int n), some (.int (nI pv2)), w5, w6, some (.int (nI (szN r (nI 40742) 8))), some (.ref 16), some (.int (nI i))] [] (mkC t r li nm pd2 tf rf lf nf pf2 ef fb fs fc frk fw ff f1 t1 co cu tr an sg am pv ++ tl) := by
  intro m
  have hrl := hA.2.1.2
  induction m with
  | zero =>
    intro i hi hall
    refine mj_iload d_Pur_genuine_116 rfl ?_
    refine mj_bipush d_Pur_genuine_118 (nI 8) (by decide) ?_
    refine mj_icmpgeN d_Pur_genuine_120 153 rfl (by omega) (fun c_120 => ?_) (fun c_120 => ?_)
    · refine mj_iconst d_Pur_genuine_153 (nI 1) (by decide) ?_
      refine mj_iret d_Pur_genuine_154 rfl (by decide) (Nat.le_refl _) (Nat.le_refl _) ?_
      exact kT (fun j hj => hall j (by omega))
    · omega
  | succ m ih =>
    intro i hi hall
    refine mj_iload d_Pur_genuine_116 rfl ?_
    refine mj_bipush d_Pur_genuine_118 (nI 8) (by decide) ?_
    refine mj_icmpgeN d_Pur_genuine_120 153 rfl (by omega) (fun c_120 => ?_) (fun c_120 => ?_)
    · omega
    · refine mj_aload_n d_Pur_genuine_123 rfl ?_
      refine mj_get d_Pur_genuine_124 fd_Pur_18 rfl rfl ?_
      refine mj_iload d_Pur_genuine_127 rfl ?_
      refine mj_iload d_Pur_genuine_129 rfl ?_
      refine mj_iadd d_Pur_genuine_131 ?_
      rw [nI_add]
      refine mj_virtual (d' := (0, 0)) (mc := 0) (ms := 0) (As := [_]) d_Pur_genuine_132 cw_Row_at q_359 q_229 q_230 (ci := 0) rfl rfl rfl rfl (mRoomB rfl) ?_
      refine s_Row_at (⟨rfl, rfl, hC.2.1, hA.2.1.2, by decide, by decide⟩) ?_
      rw [atV_in (by omega) (by omega)]
      refine mj_aload d_Pur_genuine_135 rfl ?_
      refine mj_iload d_Pur_genuine_137 rfl ?_
      refine mj_virtual (d' := (0, 0)) (mc := 0) (ms := 0) (As := [_]) d_Pur_genuine_139 cw_Sea_byteAt q_400 q_348 q_349 (ci := 3) rfl rfl rfl rfl (mRoomB rfl) ?_
      refine s_Sea_byteAt rfl rfl (by omega) ?_
      rw [hf1 i (by omega)]
      refine mj_icmpeqN d_Pur_genuine_142 147 rfl (by have := getD_lt hA.2.1.1 (szN r (nI 40742) 8 + i); have := hbs i (by omega); omega) (fun c_142 => ?_) (fun c_142 => ?_)
      · refine mj_iinc d_Pur_genuine_147 rfl (by decide) (nI (i + 1)) (nI_1 i) ?_
        dsimp only [mSt1, mSt2, mKill, Nat.reduceAdd]
        refine mj_goto d_Pur_genuine_150 116 rfl ?_
        refine ih (i + 1) (by omega) (fun j hj => ?_)
        by_cases e : j = i
        · subst e; exact c_142
        · exact hall j (by omega)
      · refine mj_iconst d_Pur_genuine_145 (nI 0) (by decide) ?_
        refine mj_iret d_Pur_genuine_146 rfl (by decide) (Nat.le_refl _) (Nat.le_refl _) ?_
        exact kF (fun z => c_142 (z i (by omega)))
theorem s_Pur_genuine {L : Nat} {xs : Nat → Int32} {Post : Option Value → mHeap → Prop} {li t r nm : List Nat} {cnt : Nat → Nat} {rc : Nat → List Nat} {rk : Nat → Nat} {co cu tr an sg am pv : Nat} {tl h : mHeap} {a : Int64} {n : Int32} {pv2 : Nat} (hA : AI t r nm cnt rc rk co cu tr an sg am pv) (hW : CWl li t r nm cnt rc rk co cu tr an sg am pv tl h) (hpv2 : pv2 < 2) (kP : ∀ h', CWl li t r nm cnt rc rk co cu tr an sg am pv tl h' → Post (some (.int (nI (genN rk r a n pv2)))) h') : mMet M_Pur_genuine L xs (4, 111) 0 0 [.ref 0, .long a, .int n, .int (nI pv2)] h Post := by
  obtain ⟨pd, tf, rf, lf, nf, pf, ef, fb, fs, fc, frk, fw, ff, fx, ft, hC, rfl⟩ := hW
  refine mMet_of rfl (Nat.le_of_ble_eq_true rfl) ?_
  have hrl := hA.2.1.2
  have hz1 := szN_spec (r := r) (tag := nI 40743) (c := 1) (by omega)
  have hz2 := szN_spec (r := r) (tag := nI 40758) (c := 2) (by omega)
  have hz3 := szN_spec (r := r) (tag := nI 40742) (c := 8) (by omega)
  refine mj_lload_n d_Pur_genuine_0 rfl ?_
  refine mj_static (d' := (0, 0)) (mc := 0) (ms := 0) (As := [_]) d_Pur_genuine_1 cw_Pur_isAmount q_405 q_406 rfl rfl (mRoomB rfl) ?_
  refine s_Pur_isAmount ?_
  refine mj_ifeqN d_Pur_genuine_4 20 rfl (by split <;> omega) (fun c_4 => ?_) (fun c_4 => ?_)
  · refine mj_iconst d_Pur_genuine_20 (nI 0) (by decide) ?_
    refine mj_iret d_Pur_genuine_21 rfl (by decide) (Nat.le_refl _) (Nat.le_refl _) ?_
    first
      | (have na : ¬ amtOk a := fun z => by rw [if_pos z] at c_4; omega
         rw [genN, if_neg (fun z => na z.1)] at kP; exact kP _ (CWl_of hC))
      | (rw [genN, if_neg (fun z => c_17 (by
           have hl0 : 0 < r.length := Nat.pos_of_ne_zero (fun y => by have q := z.2.1; rw [List.eq_nil_of_length_eq_zero y] at q; exact absurd q (by decide))
           rw [show nI 0 = nI 0 from rfl, atV_in hl0 (by omega), z.2.1]))] at kP; exact kP _ (CWl_of hC))
  · refine mj_aload_n d_Pur_genuine_7 rfl ?_
    refine mj_get d_Pur_genuine_8 fd_Pur_18 rfl rfl ?_
    refine mj_iconst d_Pur_genuine_11 (nI 0) (by decide) ?_
    refine mj_virtual (d' := (0, 0)) (mc := 0) (ms := 0) (As := [_]) d_Pur_genuine_12 cw_Row_at q_359 q_229 q_230 (ci := 0) rfl rfl rfl rfl (mRoomB rfl) ?_
    refine s_Row_at (⟨rfl, rfl, hC.2.1, hA.2.1.2, by decide, by decide⟩) ?_
    refine mj_bipush d_Pur_genuine_15 (nI 119) (by decide) ?_
    refine mj_icmpeq d_Pur_genuine_17 22 rfl (fun c_17 => ?_) (fun c_17 => ?_)
    · have ha : amtOk a := Decidable.byContradiction (fun z => by rw [if_neg z] at c_4; omega)
      have hl0 : 0 < r.length := Nat.pos_of_ne_zero (fun y => by
        rw [atV_n (by decide), if_neg (by omega)] at c_17
        exact absurd c_17 (by decide))
      rw [atV_in hl0 (by omega)] at c_17
      have h0 : r.getD 0 0 = 119 := nI_inj (by have := getD_lt hA.2.1.1 0; omega) (by decide) c_17
      refine mj_aload_n d_Pur_genuine_22 rfl ?_
      refine mj_ldc d_Pur_genuine_23 (nI 40743) q_409 ?_
      refine mj_iconst d_Pur_genuine_25 (nI 1) (by decide) ?_
      refine mj_virtual (d' := (2, 50)) (mc := 0) (ms := 0) (As := [_, _]) d_Pur_genuine_26 cw_Pur_placeOfSized q_410 q_412 qs_Pur_placeOfSized (ci := 5) rfl rfl rfl rfl (mRoomB rfl) ?_
      refine s_Pur_placeOfSized hA (CWl_of hC) (by decide) (fun h1 hW1 => ?_)
      obtain ⟨pd, tf, rf, lf, nf, pf, ef, fb, fs, fc, frk, fw, ff, fx, ft, hC, rfl⟩ := hW1
      refine mj_istore d_Pur_genuine_29 (by decide) ?_
      dsimp only [mSt1, mSt2, mKill, Nat.reduceAdd]
      refine mj_aload_n d_Pur_genuine_31 rfl ?_
      refine mj_ldc d_Pur_genuine_32 (nI 40758) q_414 ?_
      refine mj_iconst d_Pur_genuine_34 (nI 2) (by decide) ?_
      refine mj_virtual (d' := (2, 50)) (mc := 0) (ms := 0) (As := [_, _]) d_Pur_genuine_35 cw_Pur_placeOfSized q_410 q_412 qs_Pur_placeOfSized (ci := 5) rfl rfl rfl rfl (mRoomB rfl) ?_
      refine s_Pur_placeOfSized hA (CWl_of hC) (by decide) (fun h1 hW1 => ?_)
      obtain ⟨pd, tf, rf, lf, nf, pf, ef, fb, fs, fc, frk, fw, ff, fx, ft, hC, rfl⟩ := hW1
      refine mj_istore d_Pur_genuine_38 (by decide) ?_
      dsimp only [mSt1, mSt2, mKill, Nat.reduceAdd]
      refine mj_aload_n d_Pur_genuine_40 rfl ?_
      refine mj_ldc d_Pur_genuine_41 (nI 40742) q_415 ?_
      refine mj_bipush d_Pur_genuine_43 (nI 8) (by decide) ?_
      refine mj_virtual (d' := (2, 50)) (mc := 0) (ms := 0) (As := [_, _]) d_Pur_genuine_45 cw_Pur_placeOfSized q_410 q_412 qs_Pur_placeOfSized (ci := 5) rfl rfl rfl rfl (mRoomB rfl) ?_
      refine s_Pur_placeOfSized hA (CWl_of hC) (by decide) (fun h1 hW1 => ?_)
      obtain ⟨pd, tf, rf, lf, nf, pf, ef, fb, fs, fc, frk, fw, ff, fx, ft, hC, rfl⟩ := hW1
      refine mj_istore d_Pur_genuine_48 (by decide) ?_
      dsimp only [mSt1, mSt2, mKill, Nat.reduceAdd]
      refine mj_iload d_Pur_genuine_50 rfl ?_
      refine mj_iconst d_Pur_genuine_52 (-1) (by decide) ?_
      refine mj_icmpeq d_Pur_genuine_53 68 rfl (fun c_53 => ?_) (fun c_53 => ?_)
      · refine mj_iconst d_Pur_genuine_68 (nI 0) (by decide) ?_
        refine mj_iret d_Pur_genuine_69 rfl (by decide) (Nat.le_refl _) (Nat.le_refl _) ?_
        first
          | (rw [genN, if_neg (fun z => by rw [sV, if_neg z.2.2.1] at c_53; exact nI_neg1 (by omega) c_53)] at kP; exact kP _ (CWl_of hC))
          | (rw [genN, if_neg (fun z => by rw [sV, if_neg z.2.2.2.1] at c_59; exact nI_neg1 (by omega) c_59)] at kP; exact kP _ (CWl_of hC))
          | (rw [genN, if_neg (fun z => by rw [sV, if_neg z.2.2.2.2.1] at c_65; exact nI_neg1 (by omega) c_65)] at kP; exact kP _ (CWl_of hC))
      · refine mj_iload d_Pur_genuine_56 rfl ?_
        refine mj_iconst d_Pur_genuine_58 (-1) (by decide) ?_
        refine mj_icmpeq d_Pur_genuine_59 68 rfl (fun c_59 => ?_) (fun c_59 => ?_)
        · refine mj_iconst d_Pur_genuine_68 (nI 0) (by decide) ?_
          refine mj_iret d_Pur_genuine_69 rfl (by decide) (Nat.le_refl _) (Nat.le_refl _) ?_
          first
            | (rw [genN, if_neg (fun z => by rw [sV, if_neg z.2.2.1] at c_53; exact nI_neg1 (by omega) c_53)] at kP; exact kP _ (CWl_of hC))
            | (rw [genN, if_neg (fun z => by rw [sV, if_neg z.2.2.2.1] at c_59; exact nI_neg1 (by omega) c_59)] at kP; exact kP _ (CWl_of hC))
            | (rw [genN, if_neg (fun z => by rw [sV, if_neg z.2.2.2.2.1] at c_65; exact nI_neg1 (by omega) c_65)] at kP; exact kP _ (CWl_of hC))
        · refine mj_iload d_Pur_genuine_62 rfl ?_
          refine mj_iconst d_Pur_genuine_64 (-1) (by decide) ?_
          refine mj_icmpne d_Pur_genuine_65 70 rfl (fun c_65 => ?_) (fun c_65 => ?_)
          · have z1 : szN r (nI 40743) 1 ≠ 0 := fun z => c_53 (by rw [z]; rfl)
            have z2 : szN r (nI 40758) 2 ≠ 0 := fun z => c_59 (by rw [z]; rfl)
            have z3 : szN r (nI 40742) 8 ≠ 0 := fun z => c_65 (by rw [z]; rfl)
            have e1 : sV (szN r (nI 40743) 1) = nI (szN r (nI 40743) 1) := by rw [sV, if_neg z1]
            have e2 : sV (szN r (nI 40758) 2) = nI (szN r (nI 40758) 2) := by rw [sV, if_neg z2]
            have e3 : sV (szN r (nI 40742) 8) = nI (szN r (nI 40742) 8) := by rw [sV, if_neg z3]
            rw [e1, e2, e3]
            refine mj_aload_n d_Pur_genuine_70 rfl ?_
            refine mj_get d_Pur_genuine_71 fd_Pur_34 rfl rfl ?_
            refine mj_get d_Pur_genuine_74 fd_Pur_74 rfl rfl ?_
            refine mj_astore d_Pur_genuine_77 (by decide) ?_
            dsimp only [mSt1, mSt2, mKill, Nat.reduceAdd]
            refine mj_aload d_Pur_genuine_79 rfl ?_
            refine mj_aload d_Pur_genuine_81 rfl ?_
            refine mj_lload_n d_Pur_genuine_83 rfl ?_
            refine mj_iload_n d_Pur_genuine_84 rfl ?_
            refine mj_i2l d_Pur_genuine_85 ?_
            refine mj_aload_n d_Pur_genuine_86 rfl ?_
            refine mj_get d_Pur_genuine_87 fd_Pur_18 rfl rfl ?_
            refine mj_iload d_Pur_genuine_90 rfl ?_
            refine mj_iconst d_Pur_genuine_92 (nI 2) (by decide) ?_
            refine mj_virtual (d' := (1, 21)) (mc := 0) (ms := 0) (As := [_, _]) d_Pur_genuine_93 cw_Row_numberAt q_416 q_236 q_237 (ci := 0) rfl rfl rfl rfl (mRoomB rfl) ?_
            refine s_Row_numberAt (⟨rfl, rfl, hC.2.1, hA.2.1.2, by decide, by decide⟩) (by decide) ?_
            rw [numV_in (by omega) hA.2.1.1 2 (by decide) (by omega), show beV ((r.drop (szN r (nI 40758) 2)).take 2) = amtN r (szN r (nI 40758) 2) 2 from rfl, amt2 (by omega)]
            refine mj_aload_n d_Pur_genuine_96 rfl ?_
            refine mj_get d_Pur_genuine_97 fd_Pur_18 rfl rfl ?_
            refine mj_iload d_Pur_genuine_100 rfl ?_
            refine mj_virtual (d' := (0, 0)) (mc := 0) (ms := 0) (As := [_]) d_Pur_genuine_102 cw_Row_at q_359 q_229 q_230 (ci := 0) rfl rfl rfl rfl (mRoomB rfl) ?_
            refine s_Row_at (⟨rfl, rfl, hC.2.1, hA.2.1.2, by decide, by decide⟩) ?_
            rw [atV_in (by omega) (by omega)]
            refine mj_iload d_Pur_genuine_105 rfl ?_
            refine mj_virtual (d' := (2, 45)) (mc := 0) (ms := 0) (As := [_, _, _, _, _]) d_Pur_genuine_107 cw_Sea_payment q_417 q_333 q_334 (ci := 3) rfl rfl rfl rfl (mRoomB rfl) ?_
            refine s_Sea_payment rfl ⟨rfl, rfl, hC.2.2.2.2.1.1, hC.2.2.2.2.1.2, by decide, by decide⟩ hpv2 (fun pf2 hpf2 => ?_)
            rw [show rPut (mkC t r li nm pd tf rf lf nf pf ef fb fs fc frk fw ff fx ft co cu tr an sg am pv ++ tl) 22 23 16 (payM a n.toInt64 (lN (256 * r.getD (szN r (nI 40758) 2) 0 + r.getD (szN r (nI 40758) 2 + 1) 0)) (r.getD (szN r (nI 40743) 1) 0) pv2) pf2 = (mkC t r li nm ((payM a n.toInt64 (lN (256 * r.getD (szN r (nI 40758) 2) 0 + r.getD (szN r (nI 40758) 2 + 1) 0)) (r.getD (szN r (nI 40743) 1) 0) pv2)) tf rf lf nf pf2 ef fb fs fc frk fw ff fx ft co cu tr an sg am pv ++ tl) from rfl]
            refine mj_virtual (d' := (3, 83)) (mc := 0) (ms := 0) (As := [_]) d_Pur_genuine_110 cw_Sea_run q_399 q_340 q_341 (ci := 3) rfl rfl rfl rfl (mRoomB rfl) ?_
            refine s_Sea_run (cap := 16) rfl rfl rfl rfl rfl rfl ⟨rfl, rfl, hpf2, by rw [payM_len]; decide, by decide, by decide⟩ (by decide) (by decide) (by decide) (by decide) hC.2.2.2.2.2.2.1 hC.2.2.2.2.2.2.2.1 hC.2.2.2.2.2.2.2.2 hA.2.2.2.2.1 (payM_lt (getD_lt hA.2.1.1 _)) (by rw [payM_len]; decide) (fun t1 f1 hf1 => ?_)
            refine mj_iconst d_Pur_genuine_113 (nI 0) (by decide) ?_
            refine mj_istore d_Pur_genuine_114 (by decide) ?_
            dsimp only [mSt1, mSt2, mKill, Nat.reduceAdd]
            refine lp_genuine (fx := fx) (ft := ft) hA hC (sealF_lt hA.2.2.2.2.1 (payM_lt (getD_lt hA.2.1.1 _))) hf1 (by omega) (fun z => ?_) (fun z => ?_) 8 0 (by omega) (fun j hj => by omega)
            · rw [genN, if_neg (fun y => z y.2.2.2.2.2)] at kP; exact kP _ (CWl_of ⟨hC.1, hC.2.1, hC.2.2.1, hC.2.2.2.1, ⟨hpf2, by rw [payM_len]; decide⟩, hC.2.2.2.2.2⟩)
            · rw [genN, if_pos ⟨ha, h0, z1, z2, z3, z⟩] at kP; exact kP _ (CWl_of ⟨hC.1, hC.2.1, hC.2.2.1, hC.2.2.2.1, ⟨hpf2, by rw [payM_len]; decide⟩, hC.2.2.2.2.2⟩)
          · refine mj_iconst d_Pur_genuine_68 (nI 0) (by decide) ?_
            refine mj_iret d_Pur_genuine_69 rfl (by decide) (Nat.le_refl _) (Nat.le_refl _) ?_
            first
              | (rw [genN, if_neg (fun z => by rw [sV, if_neg z.2.2.1] at c_53; exact nI_neg1 (by omega) c_53)] at kP; exact kP _ (CWl_of hC))
              | (rw [genN, if_neg (fun z => by rw [sV, if_neg z.2.2.2.1] at c_59; exact nI_neg1 (by omega) c_59)] at kP; exact kP _ (CWl_of hC))
              | (rw [genN, if_neg (fun z => by rw [sV, if_neg z.2.2.2.2.1] at c_65; exact nI_neg1 (by omega) c_65)] at kP; exact kP _ (CWl_of hC))
    · refine mj_iconst d_Pur_genuine_20 (nI 0) (by decide) ?_
      refine mj_iret d_Pur_genuine_21 rfl (by decide) (Nat.le_refl _) (Nat.le_refl _) ?_
      first
        | (have na : ¬ amtOk a := fun z => by rw [if_pos z] at c_4; omega
           rw [genN, if_neg (fun z => na z.1)] at kP; exact kP _ (CWl_of hC))
        | (rw [genN, if_neg (fun z => c_17 (by
             have hl0 : 0 < r.length := Nat.pos_of_ne_zero (fun y => by have q := z.2.1; rw [List.eq_nil_of_length_eq_zero y] at q; exact absurd q (by decide))
             rw [show nI 0 = nI 0 from rfl, atV_in hl0 (by omega), z.2.1]))] at kP; exact kP _ (CWl_of hC))
