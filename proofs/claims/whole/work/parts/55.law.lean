theorem MW_take {fen : Nat → Int32} {t r nm : List Nat} {cnt : Nat → Nat} {rc : Nat → List Nat} {rk : Nat → Nat} {co cu tr an sg am pv : Nat} {pre h : mHeap} (hW : MW fen t r nm cnt rc rk co cu tr an sg am pv pre h) : h.take 24 = pre := by
  obtain ⟨h0, fkey, fdig, fnm, frc, frl, frb, fta, frd, fbl, fmo, fse, fre, fma, fend, fr, fo, ⟨ht, hr, hnm, hdg, hF, hta, hrd⟩, hB, hq, rfl⟩ := hW
  unfold pP
  rw [tk24 (by decide), tk24 (by decide), tk24 (by decide)]
  exact hq
theorem app24 {c c' tl : mHeap} {k : Nat} {x : mCell} (hc : c.length = 24) (hc' : c'.length = 24) (hk : 24 ≤ k) (hx : (c ++ tl)[k]? = some x) : (c' ++ tl)[k]? = some x := by
  rw [List.getElem?_append_right (by omega), hc] at hx
  rw [List.getElem?_append_right (by omega), hc']
  exact hx
theorem MW_move {fen : Nat → Int32} {t r nm : List Nat} {cnt : Nat → Nat} {rc : Nat → List Nat} {rk : Nat → Nat} {co cu tr an sg am pv : Nat} {pre h : mHeap} {c c' tl : mHeap} (hW : MW fen t r nm cnt rc rk co cu tr an sg am pv pre h) (hh : h = c ++ tl) (hc : c.length = 24) (hc' : c'.length = 24) : MW fen t r nm cnt rc rk co cu tr an sg am pv c' (c' ++ tl) := by
  obtain ⟨h0, fkey, fdig, fnm, frc, frl, frb, fta, frd, fbl, fmo, fse, fre, fma, fend, fr, fo, hM, hB, hq, h2⟩ := hW
  have hap : ∀ (x : mCell) (k : Nat), 24 ≤ k → (pP h0 (cMod cu tr an sg am pv t.length r.length) fr fo)[k]? = some x → (c' ++ tl)[k]? = some x := by
    intro x k hk hx
    rw [← h2, hh] at hx
    exact app24 hc hc' hk hx
  refine ⟨c' ++ tl, fkey, fdig, fnm, frc, frl, frb, fta, frd, fbl, fmo, fse, fre, fma, fend, fr, fo, hM, ⟨⟨_, hap _ 24 (by decide) (pP_24 hB.1)⟩, ⟨_, hap _ 31 (by decide) (pP_31 hB.2.1)⟩, ⟨_, hap _ 32 (by decide) (pP_32 hB.2.2.1)⟩, hap _ 25 (by decide) (pP_get hB.2.2.2.1 (by decide) (by decide) (by decide)), hap _ 26 (by decide) (pP_get hB.2.2.2.2.1 (by decide) (by decide) (by decide)), hap _ 27 (by decide) (pP_get hB.2.2.2.2.2.1 (by decide) (by decide) (by decide)), hap _ 28 (by decide) (pP_get hB.2.2.2.2.2.2.1 (by decide) (by decide) (by decide)), hap _ 29 (by decide) (pP_get hB.2.2.2.2.2.2.2.1 (by decide) (by decide) (by decide)), hap _ 30 (by decide) (pP_get hB.2.2.2.2.2.2.2.2.1 (by decide) (by decide) (by decide)), hap _ 33 (by decide) (pP_get hB.2.2.2.2.2.2.2.2.2.1 (by decide) (by decide) (by decide)), hap _ 34 (by decide) (pP_get hB.2.2.2.2.2.2.2.2.2.2.1 (by decide) (by decide) (by decide)), hap _ 35 (by decide) (pP_get hB.2.2.2.2.2.2.2.2.2.2.2.1 (by decide) (by decide) (by decide)), hap _ 36 (by decide) (pP_get hB.2.2.2.2.2.2.2.2.2.2.2.2.1 (by decide) (by decide) (by decide)), hap _ 37 (by decide) (pP_get hB.2.2.2.2.2.2.2.2.2.2.2.2.2.1 (by decide) (by decide) (by decide)), hap _ 38 (by decide) (pP_get hB.2.2.2.2.2.2.2.2.2.2.2.2.2.2.1 (by decide) (by decide) (by decide)), hap _ 39 (by decide) (pP_get hB.2.2.2.2.2.2.2.2.2.2.2.2.2.2.2.1 (by decide) (by decide) (by decide)), hap _ 40 (by decide) (pP_get hB.2.2.2.2.2.2.2.2.2.2.2.2.2.2.2.2.1 (by decide) (by decide) (by decide)), hap _ 41 (by decide) (pP_get hB.2.2.2.2.2.2.2.2.2.2.2.2.2.2.2.2.2 (by decide) (by decide) (by decide))⟩, ?_, ?_⟩
  · rw [List.take_append_of_le_length (by omega), List.take_of_length_le (by omega)]
  · unfold pP
    rw [set_same (hap _ 31 (by decide) (pP_31 hB.2.1)), set_same (hap _ 32 (by decide) (pP_32 hB.2.2.1)), set_same (hap _ 24 (by decide) (pP_24 hB.1))]
theorem MW_C {t r nm : List Nat} {cnt : Nat → Nat} {rc : Nat → List Nat} {rk : Nat → Nat} {co cu tr an sg am pv : Nat} {t1 r1 nm1 : List Nat} {cnt1 : Nat → Nat} {rc1 : Nat → List Nat} {rk1 : Nat → Nat} {co1 cu1 tr1 an1 sg1 am1 pv1 : Nat} {t2 r2 nm2 : List Nat} {cnt2 : Nat → Nat} {rc2 : Nat → List Nat} {rk2 : Nat → Nat} {co2 cu2 tr2 an2 sg2 am2 pv2 : Nat} {fen : Nat → Int32} {pre tl h h' : mHeap} (hM : MW fen t r nm cnt rc rk co cu tr an sg am pv pre h) (h1 : CW t1 r1 nm1 cnt1 rc1 rk1 co1 cu1 tr1 an1 sg1 am1 pv1 tl h) (h2 : CW t2 r2 nm2 cnt2 rc2 rk2 co2 cu2 tr2 an2 sg2 am2 pv2 tl h') : ∃ pre', MW fen t r nm cnt rc rk co cu tr an sg am pv pre' h' := by
  obtain ⟨li, pd, tf, rf, lf, nf, pf, ef, fb, fs, fc, frk, fw, ff, fx, ft, hC, e1⟩ := h1
  obtain ⟨li2, pd2, tf2, rf2, lf2, nf2, pf2, ef2, fb2, fs2, fc2, frk2, fw2, ff2, fx2, ft2, hC2, e2⟩ := h2
  rw [e2]
  exact ⟨_, MW_move hM e1 rfl rfl⟩
theorem CW_M {t r nm : List Nat} {cnt : Nat → Nat} {rc : Nat → List Nat} {rk : Nat → Nat} {co cu tr an sg am pv : Nat} {t1 r1 nm1 : List Nat} {cnt1 : Nat → Nat} {rc1 : Nat → List Nat} {rk1 : Nat → Nat} {co1 cu1 tr1 an1 sg1 am1 pv1 : Nat} {t2 r2 nm2 : List Nat} {cnt2 : Nat → Nat} {rc2 : Nat → List Nat} {rk2 : Nat → Nat} {co2 cu2 tr2 an2 sg2 am2 pv2 : Nat} {fen fen2 : Nat → Int32} {pre tl h h' : mHeap} (hC : CW t r nm cnt rc rk co cu tr an sg am pv tl h) (hM : MW fen t1 r1 nm1 cnt1 rc1 rk1 co1 cu1 tr1 an1 sg1 am1 pv1 pre h) (hM2 : MW fen2 t2 r2 nm2 cnt2 rc2 rk2 co2 cu2 tr2 an2 sg2 am2 pv2 pre h') : ∃ tl', CW t r nm cnt rc rk co cu tr an sg am pv tl' h' := by
  have e1 := MW_take hM
  have e2 := MW_take hM2
  obtain ⟨li, pd, tf, rf, lf, nf, pf, ef, fb, fs, fc, frk, fw, ff, fx, ft, hC, rfl⟩ := hC
  have e3 : (mkC t r li nm pd tf rf lf nf pf ef fb fs fc frk fw ff fx ft co cu tr an sg am pv ++ tl).take 24 = mkC t r li nm pd tf rf lf nf pf ef fb fs fc frk fw ff fx ft co cu tr an sg am pv := List.take_left' rfl
  rw [e3] at e1
  refine ⟨h'.drop 24, li, pd, tf, rf, lf, nf, pf, ef, fb, fs, fc, frk, fw, ff, fx, ft, hC, ?_⟩
  rw [e1, ← e2, List.take_append_drop]
theorem CW_0 {t r nm : List Nat} {cnt : Nat → Nat} {rc : Nat → List Nat} {rk : Nat → Nat} {co cu tr an sg am pv : Nat} {tl h : mHeap} (hC : CW t r nm cnt rc rk co cu tr an sg am pv tl h) : h[0]? = some (.inr (5, [.ref 1, .ref 3, .ref 5, .ref 7, .ref 9])) := by
  obtain ⟨li, h1⟩ := hC
  exact cw0 (li := li) h1
/-- class and model hold the same state -/
def SI (h : mHeap) : Prop := ∃ (t r nm : List Nat) (cnt : Nat → Nat) (rc : Nat → List Nat) (rk : Nat → Nat) (co cu tr an sg am pv : Nat) (fen : Nat → Int32) (tl pre : mHeap), AI t r nm cnt rc rk co cu tr an sg am pv ∧ CW t r nm cnt rc rk co cu tr an sg am pv tl h ∧ MW fen t r nm cnt rc rk co cu tr an sg am pv pre h
theorem SI_of {t r nm : List Nat} {cnt : Nat → Nat} {rc : Nat → List Nat} {rk : Nat → Nat} {co cu tr an sg am pv : Nat} {t1 r1 nm1 : List Nat} {cnt1 : Nat → Nat} {rc1 : Nat → List Nat} {rk1 : Nat → Nat} {co1 cu1 tr1 an1 sg1 am1 pv1 : Nat} {fen fen2 : Nat → Int32} {pre tl h h' : mHeap} (hA : AI t r nm cnt rc rk co cu tr an sg am pv) (hC : CW t r nm cnt rc rk co cu tr an sg am pv tl h) (hM : MW fen t1 r1 nm1 cnt1 rc1 rk1 co1 cu1 tr1 an1 sg1 am1 pv1 pre h) (hM2 : MW fen2 t r nm cnt rc rk co cu tr an sg am pv pre h') : SI h' := by
  obtain ⟨tl', h1⟩ := CW_M hC hM hM2
  exact ⟨t, r, nm, cnt, rc, rk, co, cu, tr, an, sg, am, pv, fen2, tl', pre, hA, h1, hM2⟩
theorem AI_keep {t r nm : List Nat} {cnt : Nat → Nat} {rc : Nat → List Nat} {rk : Nat → Nat} {co cu tr an sg am pv : Nat} {cnt2 : Nat → Nat} {rc2 : Nat → List Nat} {tl h : mHeap} (hA : AI t r nm cnt rc rk co cu tr an sg am pv) (hC : CW [] r nm cnt2 rc2 rk co cu tr an sg am pv tl h) : AI [] r nm cnt2 rc2 rk co cu tr an sg am pv := by
  obtain ⟨li, pd, tf, rf, lf, nf, pf, ef, fb, fs, fc, frk, fw, ff, fx, ft, hC, e1⟩ := hC
  have hF := hC.2.2.2.2.2.1
  exact ⟨⟨Bb_nil, by decide⟩, hA.2.1, hA.2.2.1, fun f hf => ⟨hF.2.1 f hf, fun j hj => ⟨(hF.2.2 f j hf hj).1, (hF.2.2 f j hf hj).2.1, (hF.2.2 f j hf hj).2.2.1⟩⟩, hA.2.2.2.2⟩
theorem and15 (x : Int32) : ∃ q : Nat, q < 16 ∧ x &&& nI 15 = nI q := ⟨x.toBitVec.toNat % 16, Nat.mod_lt _ (by decide), pk_and x 4 (by decide)⟩
theorem neg8 : ∀ L : Nat, L < 8 → nI L - nI 8 < 0 := by decide
theorem lt_nn {x y : Int32} (h : x < 0) (h2 : ¬ y < 0) : x < y := by
  rw [Int32.lt_iff_toInt_lt] at h h2 ⊢
  omega
theorem s_Law_cell {L : Nat} {xs : Nat → Int32} {Post : Option Value → mHeap → Prop} {h : mHeap} (hL : L ≤ 4097) (kP : Post (some (.int (if 0 < L then xs 0 else 0))) h) : mMet M_Law_cell L xs (0, 0) 0 0 [.retAddr 0, .int (nI 0)] h Post := by
  refine mMet_of rfl (Nat.le_of_ble_eq_true rfl) ?_
  refine mj_iload_n d_Law_cell_0 rfl ?_
  refine mj_oload_n d_Law_cell_1 rfl ?_
  refine mj_olen d_Law_cell_2 rfl ?_
  refine mj_icmpgeN d_Law_cell_3 12 rfl (by omega) (fun c_3 => ?_) (fun c_3 => ?_)
  · refine mj_iconst d_Law_cell_12 (nI 0) (by decide) ?_
    refine mj_iret d_Law_cell_13 rfl rfl (Nat.le_refl _) (Nat.le_refl _) ?_
    first
      | (rw [if_pos c_3] at kP; exact kP)
      | (rw [if_neg (by omega)] at kP; exact kP)
  · refine mj_oload_n d_Law_cell_6 rfl ?_
    refine mj_iload_n d_Law_cell_7 rfl ?_
    refine mj_oaldN d_Law_cell_8 rfl (by omega) ?_
    refine mj_goto d_Law_cell_9 13 rfl ?_
    refine mj_iret d_Law_cell_13 rfl rfl (Nat.le_refl _) (Nat.le_refl _) ?_
    first
      | (rw [if_pos c_3] at kP; exact kP)
      | (rw [if_neg (by omega)] at kP; exact kP)
theorem lb_0 {L : Nat} {xs : Nat → Int32} {Post : Option Value → mHeap → Prop} {i : Nat} {h : mHeap} (hL : L ≤ 4097) (hi : i + 8 ≤ L) (hS : SI h) (nx : ∀ h', SI h' → mGo M_Law_law L xs (9, 224) 42 1958 Post 42 1958 682 [some (.retAddr 0), some (.ref 0), some (.ref 24), some (.int (nI i))] [] h') : mGo M_Law_law L xs (9, 224) 42 1958 Post 42 1958 120 [some (.retAddr 0), some (.ref 0), some (.ref 24), some (.int (nI i))] [] h := by
  obtain ⟨t, r, nm, cnt, rc, rk, co, cu, tr, an, sg, am, pv, fen, tl, pre, hA, hC, hM⟩ := hS
  refine mj_aload_n d_Law_law_120 rfl ?_
  refine mj_oload_n d_Law_law_121 rfl ?_
  refine mj_iload_n d_Law_law_122 rfl ?_
  refine mj_iconst d_Law_law_123 (nI 1) (by decide) ?_
  refine mj_iadd d_Law_law_124 ?_
  rw [nI_add]
  refine mj_oaldN d_Law_law_125 rfl (by omega) ?_
  refine mj_virtual (d' := (1, 21)) (mc := 0) (ms := 0) (As := [_]) d_Law_law_126 cw_Pur_put q_194 q_195 q_196 (ci := 5) rfl (CW_0 hC) rfl rfl (mRoomB rfl) ?_
  refine s_Pur_put hA hC (fun z h1 hC1 => ?_) (fun n ln yn sn h1 hC1 => ?_)
  · obtain ⟨pre1, hM1⟩ := MW_C hM hC hC1
    refine mj_aload_n d_Law_law_129 rfl ?_
    refine mj_oload_n d_Law_law_130 rfl ?_
    refine mj_iload_n d_Law_law_131 rfl ?_
    refine mj_iconst d_Law_law_132 (nI 1) (by decide) ?_
    refine mj_iadd d_Law_law_133 ?_
    rw [nI_add]
    refine mj_oaldN d_Law_law_134 rfl (by omega) ?_
    refine mj_virtual (d' := (0, 0)) (mc := 0) (ms := 0) (As := [_]) d_Law_law_135 cw_Mod_put q_564 q_565 q_566 (ci := 6) rfl (MW_24 hM1) rfl rfl (mRoomB rfl) ?_
    refine s_Mod_put hA hM1 (fun z2 h2 hM2 => ?_) (fun m lm ym sm h2 hM2 => absurd ⟨m, lm, ym, sm⟩ z)
    refine mj_icmpeq d_Law_law_138 682 rfl (fun c_138 => ?_) (fun c_138 => ?_)
    · exact nx _ (SI_of hA hC1 hM1 hM2)
    · exact absurd rfl c_138
  · obtain ⟨pre1, hM1⟩ := MW_C hM hC hC1
    refine mj_aload_n d_Law_law_129 rfl ?_
    refine mj_oload_n d_Law_law_130 rfl ?_
    refine mj_iload_n d_Law_law_131 rfl ?_
    refine mj_iconst d_Law_law_132 (nI 1) (by decide) ?_
    refine mj_iadd d_Law_law_133 ?_
    rw [nI_add]
    refine mj_oaldN d_Law_law_134 rfl (by omega) ?_
    refine mj_virtual (d' := (0, 0)) (mc := 0) (ms := 0) (As := [_]) d_Law_law_135 cw_Mod_put q_564 q_565 q_566 (ci := 6) rfl (MW_24 hM1) rfl rfl (mRoomB rfl) ?_
    refine s_Mod_put hA hM1 (fun z2 h2 hM2 => absurd ⟨n, ln, yn, sn⟩ z2) (fun m lm ym sm h2 hM2 => ?_)
    obtain rfl : n = m := nI_inj (by omega) (by omega) (yn.symm.trans ym)
    refine mj_icmpeq d_Law_law_138 682 rfl (fun c_138 => ?_) (fun c_138 => ?_)
    · exact nx _ (SI_of (AI_t hA (Bb_snoc hA.1.1 ln) (by simp; omega)) hC1 hM1 hM2)
    · exact absurd rfl c_138
theorem lb_1 {L : Nat} {xs : Nat → Int32} {Post : Option Value → mHeap → Prop} {i : Nat} {h : mHeap} (hL : L ≤ 4097) (hi : i + 8 ≤ L) (hS : SI h) (nx : ∀ h', SI h' → mGo M_Law_law L xs (9, 224) 42 1958 Post 42 1958 682 [some (.retAddr 0), some (.ref 0), some (.ref 24), some (.int (nI i))] [] h') : mGo M_Law_law L xs (9, 224) 42 1958 Post 42 1958 143 [some (.retAddr 0), some (.ref 0), some (.ref 24), some (.int (nI i))] [] h := by
  obtain ⟨t, r, nm, cnt, rc, rk, co, cu, tr, an, sg, am, pv, fen, tl, pre, hA, hC, hM⟩ := hS
  refine mj_aload_n d_Law_law_143 rfl ?_
  refine mj_virtual (d' := (1, 20)) (mc := 0) (ms := 0) (As := []) d_Law_law_144 cw_Pur_wipe q_199 q_200 q_201 (ci := 5) rfl (CW_0 hC) rfl rfl (mRoomB rfl) ?_
  refine s_Pur_wipe hA hC (fun h1 hC1 => ?_)
  obtain ⟨pre1, hM1⟩ := MW_C hM hC hC1
  refine mj_aload_n d_Law_law_147 rfl ?_
  refine mj_virtual (d' := (0, 0)) (mc := 0) (ms := 0) (As := []) d_Law_law_148 cw_Mod_wipe q_568 q_569 q_570 (ci := 6) rfl (MW_24 hM1) rfl rfl (mRoomB rfl) ?_
  refine s_Mod_wipe hA hM1 (fun h2 hM2 => ?_)
  refine mj_icmpeq d_Law_law_151 682 rfl (fun c_151 => ?_) (fun c_151 => ?_)
  · exact nx _ (SI_of (AI_t hA Bb_nil (by decide)) hC1 hM1 hM2)
  · exact absurd rfl c_151
theorem lb_2 {L : Nat} {xs : Nat → Int32} {Post : Option Value → mHeap → Prop} {i : Nat} {h : mHeap} (hL : L ≤ 4097) (hi : i + 8 ≤ L) (hS : SI h) (nx : ∀ h', SI h' → mGo M_Law_law L xs (9, 224) 42 1958 Post 42 1958 682 [some (.retAddr 0), some (.ref 0), some (.ref 24), some (.int (nI i))] [] h') : mGo M_Law_law L xs (9, 224) 42 1958 Post 42 1958 156 [some (.retAddr 0), some (.ref 0), some (.ref 24), some (.int (nI i))] [] h := by
  obtain ⟨t, r, nm, cnt, rc, rk, co, cu, tr, an, sg, am, pv, fen, tl, pre, hA, hC, hM⟩ := hS
  refine mj_aload_n d_Law_law_156 rfl ?_
  refine mj_virtual (d' := (6, 164)) (mc := 0) (ms := 0) (As := []) d_Law_law_157 cw_Pur_send q_211 q_212 q_213 (ci := 5) rfl (CW_0 hC) rfl rfl (mRoomB rfl) ?_
  refine s_Pur_send hA hC (fun h1 hC1 => ?_)
  obtain ⟨pre1, hM1⟩ := MW_C hM hC hC1
  refine mj_aload_n d_Law_law_160 rfl ?_
  refine mj_virtual (d' := (6, 146)) (mc := 0) (ms := 0) (As := []) d_Law_law_161 cw_Mod_send q_580 q_581 q_582 (ci := 6) rfl (MW_24 hM1) rfl rfl (mRoomB rfl) ?_
  refine s_Mod_send hA hM1 (fun S h2 hS hM2 hA2 hl2 => ?_)
  subst hS
  refine mj_icmpeq d_Law_law_164 682 rfl (fun c_164 => ?_) (fun c_164 => ?_)
  · exact nx _ (SI_of hA2 hC1 hM1 hM2)
  · exact absurd rfl c_164
theorem lb_3 {L : Nat} {xs : Nat → Int32} {Post : Option Value → mHeap → Prop} {i : Nat} {h : mHeap} (hL : L ≤ 4097) (hi : i + 8 ≤ L) (hS : SI h) (nx : ∀ h', SI h' → mGo M_Law_law L xs (9, 224) 42 1958 Post 42 1958 682 [some (.retAddr 0), some (.ref 0), some (.ref 24), some (.int (nI i))] [] h') : mGo M_Law_law L xs (9, 224) 42 1958 Post 42 1958 169 [some (.retAddr 0), some (.ref 0), some (.ref 24), some (.int (nI i))] [] h := by
  obtain ⟨t, r, nm, cnt, rc, rk, co, cu, tr, an, sg, am, pv, fen, tl, pre, hA, hC, hM⟩ := hS
  refine mj_aload_n d_Law_law_169 rfl ?_
  refine mj_virtual (d' := (1, 20)) (mc := 0) (ms := 0) (As := []) d_Law_law_170 cw_Pur_answered q_351 q_352 q_353 (ci := 5) rfl (CW_0 hC) rfl rfl (mRoomB rfl) ?_
  refine s_Pur_answered hA hC (fun h1 hC1 => ?_)
  obtain ⟨pre1, hM1⟩ := MW_C hM hC hC1
  refine mj_aload_n d_Law_law_173 rfl ?_
  refine mj_virtual (d' := (0, 0)) (mc := 0) (ms := 0) (As := []) d_Law_law_174 cw_Mod_answered q_572 q_573 q_574 (ci := 6) rfl (MW_24 hM1) rfl rfl (mRoomB rfl) ?_
  refine s_Mod_answered hA hM1 (fun h2 hM2 => ?_)
  refine mj_icmpeq d_Law_law_177 682 rfl (fun c_177 => ?_) (fun c_177 => ?_)
  · exact nx _ (SI_of hA hC1 hM1 hM2)
  · exact absurd rfl c_177
theorem lb_4 {L : Nat} {xs : Nat → Int32} {Post : Option Value → mHeap → Prop} {i : Nat} {h : mHeap} (hL : L ≤ 4097) (hi : i + 8 ≤ L) (hS : SI h) (nx : ∀ h', SI h' → mGo M_Law_law L xs (9, 224) 42 1958 Post 42 1958 682 [some (.retAddr 0), some (.ref 0), some (.ref 24), some (.int (nI i))] [] h') : mGo M_Law_law L xs (9, 224) 42 1958 Post 42 1958 182 [some (.retAddr 0), some (.ref 0), some (.ref 24), some (.int (nI i))] [] h := by
  obtain ⟨t, r, nm, cnt, rc, rk, co, cu, tr, an, sg, am, pv, fen, tl, pre, hA, hC, hM⟩ := hS
  refine mj_aload_n d_Law_law_182 rfl ?_
  refine mj_oload_n d_Law_law_183 rfl ?_
  refine mj_iload_n d_Law_law_184 rfl ?_
  refine mj_iconst d_Law_law_185 (nI 1) (by decide) ?_
  refine mj_iadd d_Law_law_186 ?_
  rw [nI_add]
  refine mj_oaldN d_Law_law_187 rfl (by omega) ?_
  refine mj_virtual (d' := (1, 21)) (mc := 0) (ms := 0) (As := [_]) d_Law_law_188 cw_Pur_answer q_355 q_356 q_357 (ci := 5) rfl (CW_0 hC) rfl rfl (mRoomB rfl) ?_
  refine s_Pur_answer hA hC (fun h1 hC1 => ?_)
  obtain ⟨pre1, hM1⟩ := MW_C hM hC hC1
  refine mj_aload_n d_Law_law_191 rfl ?_
  refine mj_oload_n d_Law_law_192 rfl ?_
  refine mj_iload_n d_Law_law_193 rfl ?_
  refine mj_iconst d_Law_law_194 (nI 1) (by decide) ?_
  refine mj_iadd d_Law_law_195 ?_
  rw [nI_add]
  refine mj_oaldN d_Law_law_196 rfl (by omega) ?_
  refine mj_virtual (d' := (0, 0)) (mc := 0) (ms := 0) (As := [_]) d_Law_law_197 cw_Mod_answer q_576 q_577 q_578 (ci := 6) rfl (MW_24 hM1) rfl rfl (mRoomB rfl) ?_
  refine s_Mod_answer hA hM1 (fun h2 hM2 => ?_)
  refine mj_icmpeq d_Law_law_200 682 rfl (fun c_200 => ?_) (fun c_200 => ?_)
  · exact nx _ (SI_of hA hC1 hM1 hM2)
  · exact absurd rfl c_200
theorem lb_5 {L : Nat} {xs : Nat → Int32} {Post : Option Value → mHeap → Prop} {i : Nat} {h : mHeap} (hL : L ≤ 4097) (hi : i + 8 ≤ L) (hS : SI h) (nx : ∀ h', SI h' → mGo M_Law_law L xs (9, 224) 42 1958 Post 42 1958 682 [some (.retAddr 0), some (.ref 0), some (.ref 24), some (.int (nI i))] [] h') : mGo M_Law_law L xs (9, 224) 42 1958 Post 42 1958 205 [some (.retAddr 0), some (.ref 0), some (.ref 24), some (.int (nI i))] [] h := by
  obtain ⟨t, r, nm, cnt, rc, rk, co, cu, tr, an, sg, am, pv, fen, tl, pre, hA, hC, hM⟩ := hS
  refine mj_aload_n d_Law_law_205 rfl ?_
  refine mj_oload_n d_Law_law_206 rfl ?_
  refine mj_iload_n d_Law_law_207 rfl ?_
  refine mj_iconst d_Law_law_208 (nI 1) (by decide) ?_
  refine mj_iadd d_Law_law_209 ?_
  rw [nI_add]
  refine mj_oaldN d_Law_law_210 rfl (by omega) ?_
  refine mj_virtual (d' := (2, 50)) (mc := 0) (ms := 0) (As := [_]) d_Law_law_211 cw_Pur_find q_360 q_361 q_362 (ci := 5) rfl (CW_0 hC) rfl rfl (mRoomB rfl) ?_
  refine s_Pur_find hA hC (fun h1 hC1 => ?_)
  obtain ⟨pre1, hM1⟩ := MW_C hM hC hC1
  refine mj_aload_n d_Law_law_214 rfl ?_
  refine mj_oload_n d_Law_law_215 rfl ?_
  refine mj_iload_n d_Law_law_216 rfl ?_
  refine mj_iconst d_Law_law_217 (nI 1) (by decide) ?_
  refine mj_iadd d_Law_law_218 ?_
  rw [nI_add]
  refine mj_oaldN d_Law_law_219 rfl (by omega) ?_
  refine mj_virtual (d' := (0, 0)) (mc := 0) (ms := 0) (As := [_]) d_Law_law_220 cw_Mod_find q_679 q_680 q_681 (ci := 6) rfl (MW_24 hM1) rfl rfl (mRoomB rfl) ?_
  refine s_Mod_find hA hM1 (fun h2 hM2 => ?_)
  refine mj_icmpeq d_Law_law_223 682 rfl (fun c_223 => ?_) (fun c_223 => ?_)
  · exact nx _ (SI_of hA hC1 hM1 hM2)
  · exact absurd rfl c_223
theorem lb_6 {L : Nat} {xs : Nat → Int32} {Post : Option Value → mHeap → Prop} {i : Nat} {h : mHeap} (hL : L ≤ 4097) (hi : i + 8 ≤ L) (hS : SI h) (nx : ∀ h', SI h' → mGo M_Law_law L xs (9, 224) 42 1958 Post 42 1958 682 [some (.retAddr 0), some (.ref 0), some (.ref 24), some (.int (nI i))] [] h') : mGo M_Law_law L xs (9, 224) 42 1958 Post 42 1958 228 [some (.retAddr 0), some (.ref 0), some (.ref 24), some (.int (nI i))] [] h := by
  obtain ⟨t, r, nm, cnt, rc, rk, co, cu, tr, an, sg, am, pv, fen, tl, pre, hA, hC, hM⟩ := hS
  refine mj_aload_n d_Law_law_228 rfl ?_
  refine mj_oload_n d_Law_law_229 rfl ?_
  refine mj_iload_n d_Law_law_230 rfl ?_
  refine mj_iconst d_Law_law_231 (nI 1) (by decide) ?_
  refine mj_iadd d_Law_law_232 ?_
  rw [nI_add]
  refine mj_oaldN d_Law_law_233 rfl (by omega) ?_
  refine mj_virtual (d' := (2, 45)) (mc := 0) (ms := 0) (As := [_]) d_Law_law_234 cw_Pur_keep q_370 q_371 q_372 (ci := 5) rfl (CW_0 hC) rfl rfl (mRoomB rfl) ?_
  refine s_Pur_keep hA hC (fun z h1 hC1 => ?_) (fun n ln yn sn un h1 hC1 => ?_)
  · obtain ⟨pre1, hM1⟩ := MW_C hM hC hC1
    refine mj_aload_n d_Law_law_237 rfl ?_
    refine mj_oload_n d_Law_law_238 rfl ?_
    refine mj_iload_n d_Law_law_239 rfl ?_
    refine mj_iconst d_Law_law_240 (nI 1) (by decide) ?_
    refine mj_iadd d_Law_law_241 ?_
    rw [nI_add]
    refine mj_oaldN d_Law_law_242 rfl (by omega) ?_
    refine mj_virtual (d' := (0, 0)) (mc := 0) (ms := 0) (As := [_]) d_Law_law_243 cw_Mod_keep q_683 q_684 q_685 (ci := 6) rfl (MW_24 hM1) rfl rfl (mRoomB rfl) ?_
    refine s_Mod_keep hA hM1 (fun z2 h2 hM2 => ?_) (fun m lm ym sm um h2 hM2 => absurd ⟨m, lm, ym, sm, um⟩ z)
    refine mj_icmpeq d_Law_law_246 682 rfl (fun c_246 => ?_) (fun c_246 => ?_)
    · exact nx _ (SI_of hA hC1 hM1 hM2)
    · exact absurd rfl c_246
  · obtain ⟨pre1, hM1⟩ := MW_C hM hC hC1
    refine mj_aload_n d_Law_law_237 rfl ?_
    refine mj_oload_n d_Law_law_238 rfl ?_
    refine mj_iload_n d_Law_law_239 rfl ?_
    refine mj_iconst d_Law_law_240 (nI 1) (by decide) ?_
    refine mj_iadd d_Law_law_241 ?_
    rw [nI_add]
    refine mj_oaldN d_Law_law_242 rfl (by omega) ?_
    refine mj_virtual (d' := (0, 0)) (mc := 0) (ms := 0) (As := [_]) d_Law_law_243 cw_Mod_keep q_683 q_684 q_685 (ci := 6) rfl (MW_24 hM1) rfl rfl (mRoomB rfl) ?_
    refine s_Mod_keep hA hM1 (fun z2 h2 hM2 => absurd ⟨n, ln, yn, sn, un⟩ z2) (fun m lm ym sm um h2 hM2 => ?_)
    obtain rfl : n = m := by have := nI_inj (by omega) (by omega) (yn.symm.trans ym); omega
    refine mj_icmpeq d_Law_law_246 682 rfl (fun c_246 => ?_) (fun c_246 => ?_)
    · exact nx _ (SI_of (AI_keep hA hC1) hC1 hM1 hM2)
    · exact absurd rfl c_246
theorem lb_7 {L : Nat} {xs : Nat → Int32} {Post : Option Value → mHeap → Prop} {i : Nat} {h : mHeap} (hL : L ≤ 4097) (hi : i + 8 ≤ L) (hS : SI h) (nx : ∀ h', SI h' → mGo M_Law_law L xs (9, 224) 42 1958 Post 42 1958 682 [some (.retAddr 0), some (.ref 0), some (.ref 24), some (.int (nI i))] [] h') : mGo M_Law_law L xs (9, 224) 42 1958 Post 42 1958 251 [some (.retAddr 0), some (.ref 0), some (.ref 24), some (.int (nI i))] [] h := by
  obtain ⟨t, r, nm, cnt, rc, rk, co, cu, tr, an, sg, am, pv, fen, tl, pre, hA, hC, hM⟩ := hS
  refine mj_aload_n d_Law_law_251 rfl ?_
  refine mj_oload_n d_Law_law_252 rfl ?_
  refine mj_iload_n d_Law_law_253 rfl ?_
  refine mj_iconst d_Law_law_254 (nI 1) (by decide) ?_
  refine mj_iadd d_Law_law_255 ?_
  rw [nI_add]
  refine mj_oaldN d_Law_law_256 rfl (by omega) ?_
  refine mj_i2l d_Law_law_257 ?_
  refine mj_bipush d_Law_law_258 (nI 32) (by decide) ?_
  refine mj_lshl d_Law_law_260 ?_
  refine mj_oload_n d_Law_law_261 rfl ?_
  refine mj_iload_n d_Law_law_262 rfl ?_
  refine mj_iconst d_Law_law_263 (nI 2) (by decide) ?_
  refine mj_iadd d_Law_law_264 ?_
  rw [nI_add]
  refine mj_oaldN d_Law_law_265 rfl (by omega) ?_
  refine mj_i2l d_Law_law_266 ?_
  refine mj_ldc2 d_Law_law_267 4294967295 q_773 ?_
  refine mj_land d_Law_law_270 ?_
  refine mj_lor d_Law_law_271 ?_
  refine mj_oload_n d_Law_law_272 rfl ?_
  refine mj_iload_n d_Law_law_273 rfl ?_
  refine mj_iconst d_Law_law_274 (nI 3) (by decide) ?_
  refine mj_iadd d_Law_law_275 ?_
  rw [nI_add]
  refine mj_oaldN d_Law_law_276 rfl (by omega) ?_
  refine mj_i2l d_Law_law_277 ?_
  refine mj_bipush d_Law_law_278 (nI 32) (by decide) ?_
  refine mj_lshl d_Law_law_280 ?_
  refine mj_oload_n d_Law_law_281 rfl ?_
  refine mj_iload_n d_Law_law_282 rfl ?_
  refine mj_iconst d_Law_law_283 (nI 4) (by decide) ?_
  refine mj_iadd d_Law_law_284 ?_
  rw [nI_add]
  refine mj_oaldN d_Law_law_285 rfl (by omega) ?_
  refine mj_i2l d_Law_law_286 ?_
  refine mj_ldc2 d_Law_law_287 4294967295 q_773 ?_
  refine mj_land d_Law_law_290 ?_
  refine mj_lor d_Law_law_291 ?_
  refine mj_virtual (d' := (4, 108)) (mc := 0) (ms := 0) (As := [_, _]) d_Law_law_292 cw_Pur_key q_381 q_382 q_383 (ci := 5) rfl (CW_0 hC) rfl rfl (mRoomB rfl) ?_
  refine s_Pur_key hA hC (fun h1 hC1 => ?_)
  obtain ⟨pre1, hM1⟩ := MW_C hM hC hC1
  refine mj_aload_n d_Law_law_295 rfl ?_
  refine mj_oload_n d_Law_law_296 rfl ?_
  refine mj_iload_n d_Law_law_297 rfl ?_
  refine mj_iconst d_Law_law_298 (nI 1) (by decide) ?_
  refine mj_iadd d_Law_law_299 ?_
  rw [nI_add]
  refine mj_oaldN d_Law_law_300 rfl (by omega) ?_
  refine mj_i2l d_Law_law_301 ?_
  refine mj_bipush d_Law_law_302 (nI 32) (by decide) ?_
  refine mj_lshl d_Law_law_304 ?_
  refine mj_oload_n d_Law_law_305 rfl ?_
  refine mj_iload_n d_Law_law_306 rfl ?_
  refine mj_iconst d_Law_law_307 (nI 2) (by decide) ?_
  refine mj_iadd d_Law_law_308 ?_
  rw [nI_add]
  refine mj_oaldN d_Law_law_309 rfl (by omega) ?_
  refine mj_i2l d_Law_law_310 ?_
  refine mj_ldc2 d_Law_law_311 4294967295 q_773 ?_
  refine mj_land d_Law_law_314 ?_
  refine mj_lor d_Law_law_315 ?_
  refine mj_oload_n d_Law_law_316 rfl ?_
  refine mj_iload_n d_Law_law_317 rfl ?_
  refine mj_iconst d_Law_law_318 (nI 3) (by decide) ?_
  refine mj_iadd d_Law_law_319 ?_
  rw [nI_add]
  refine mj_oaldN d_Law_law_320 rfl (by omega) ?_
  refine mj_i2l d_Law_law_321 ?_
  refine mj_bipush d_Law_law_322 (nI 32) (by decide) ?_
  refine mj_lshl d_Law_law_324 ?_
  refine mj_oload_n d_Law_law_325 rfl ?_
  refine mj_iload_n d_Law_law_326 rfl ?_
  refine mj_iconst d_Law_law_327 (nI 4) (by decide) ?_
  refine mj_iadd d_Law_law_328 ?_
  rw [nI_add]
  refine mj_oaldN d_Law_law_329 rfl (by omega) ?_
  refine mj_i2l d_Law_law_330 ?_
  refine mj_ldc2 d_Law_law_331 4294967295 q_773 ?_
  refine mj_land d_Law_law_334 ?_
  refine mj_lor d_Law_law_335 ?_
  refine mj_virtual (d' := (2, 49)) (mc := 0) (ms := 0) (As := [_, _]) d_Law_law_336 cw_Mod_key q_687 q_688 q_689 (ci := 6) rfl (MW_24 hM1) rfl rfl (mRoomB rfl) ?_
  refine s_Mod_key hA hM1 (fun h2 hM2 => ?_)
  refine mj_goto d_Law_law_339 682 rfl ?_
  exact nx _ (SI_of ⟨hA.1, hA.2.1, hA.2.2.1, hA.2.2.2.1, fun j hj => rkF_lt (kbF_lt _ _) j hj, hA.2.2.2.2.2⟩ hC1 hM1 hM2)
theorem lb_8 {L : Nat} {xs : Nat → Int32} {Post : Option Value → mHeap → Prop} {i : Nat} {h : mHeap} (hL : L ≤ 4097) (hi : i + 8 ≤ L) (hS : SI h) (nx : ∀ h', SI h' → mGo M_Law_law L xs (9, 224) 42 1958 Post 42 1958 682 [some (.retAddr 0), some (.ref 0), some (.ref 24), some (.int (nI i))] [] h') : mGo M_Law_law L xs (9, 224) 42 1958 Post 42 1958 342 [some (.retAddr 0), some (.ref 0), some (.ref 24), some (.int (nI i))] [] h := by
  obtain ⟨t, r, nm, cnt, rc, rk, co, cu, tr, an, sg, am, pv, fen, tl, pre, hA, hC, hM⟩ := hS
  refine mj_aload_n d_Law_law_342 rfl ?_
  refine mj_oload_n d_Law_law_343 rfl ?_
  refine mj_iload_n d_Law_law_344 rfl ?_
  refine mj_iconst d_Law_law_345 (nI 1) (by decide) ?_
  refine mj_iadd d_Law_law_346 ?_
  rw [nI_add]
  refine mj_oaldN d_Law_law_347 rfl (by omega) ?_
  refine mj_virtual (d' := (0, 0)) (mc := 0) (ms := 0) (As := [_]) d_Law_law_348 cw_Pur_code q_386 q_387 q_388 (ci := 5) rfl (CW_0 hC) rfl rfl (mRoomB rfl) ?_
  refine s_Pur_code hA hC (fun z h1 hC1 => ?_) (fun n ln yn h1 hC1 => ?_)
  · obtain ⟨pre1, hM1⟩ := MW_C hM hC hC1
    refine mj_aload_n d_Law_law_351 rfl ?_
    refine mj_oload_n d_Law_law_352 rfl ?_
    refine mj_iload_n d_Law_law_353 rfl ?_
    refine mj_iconst d_Law_law_354 (nI 1) (by decide) ?_
    refine mj_iadd d_Law_law_355 ?_
    rw [nI_add]
    refine mj_oaldN d_Law_law_356 rfl (by omega) ?_
    refine mj_virtual (d' := (0, 0)) (mc := 0) (ms := 0) (As := [_]) d_Law_law_357 cw_Mod_code q_691 q_692 q_693 (ci := 6) rfl (MW_24 hM1) rfl rfl (mRoomB rfl) ?_
    refine s_Mod_code hA hM1 (fun z2 h2 hM2 => ?_) (fun m lm ym h2 hM2 => absurd ⟨m, lm, ym⟩ z)
    refine mj_icmpeq d_Law_law_360 682 rfl (fun c_360 => ?_) (fun c_360 => ?_)
    · exact nx _ (SI_of hA hC1 hM1 hM2)
    · exact absurd rfl c_360
  · obtain ⟨pre1, hM1⟩ := MW_C hM hC hC1
    refine mj_aload_n d_Law_law_351 rfl ?_
    refine mj_oload_n d_Law_law_352 rfl ?_
    refine mj_iload_n d_Law_law_353 rfl ?_
    refine mj_iconst d_Law_law_354 (nI 1) (by decide) ?_
    refine mj_iadd d_Law_law_355 ?_
    rw [nI_add]
    refine mj_oaldN d_Law_law_356 rfl (by omega) ?_
    refine mj_virtual (d' := (0, 0)) (mc := 0) (ms := 0) (As := [_]) d_Law_law_357 cw_Mod_code q_691 q_692 q_693 (ci := 6) rfl (MW_24 hM1) rfl rfl (mRoomB rfl) ?_
    refine s_Mod_code hA hM1 (fun z2 h2 hM2 => absurd ⟨n, ln, yn⟩ z2) (fun m lm ym h2 hM2 => ?_)
    obtain rfl : n = m := nI_inj (by omega) (by omega) (yn.symm.trans ym)
    refine mj_icmpeq d_Law_law_360 682 rfl (fun c_360 => ?_) (fun c_360 => ?_)
    · exact nx _ (SI_of ⟨hA.1, hA.2.1, hA.2.2.1, hA.2.2.2.1, hA.2.2.2.2.1, ln, hA.2.2.2.2.2.2.1, by decide, hA.2.2.2.2.2.2.2.2⟩ hC1 hM1 hM2)
    · exact absurd rfl c_360
theorem lb_9 {L : Nat} {xs : Nat → Int32} {Post : Option Value → mHeap → Prop} {i : Nat} {h : mHeap} (hL : L ≤ 4097) (hi : i + 8 ≤ L) (hS : SI h) (nx : ∀ h', SI h' → mGo M_Law_law L xs (9, 224) 42 1958 Post 42 1958 682 [some (.retAddr 0), some (.ref 0), some (.ref 24), some (.int (nI i))] [] h') : mGo M_Law_law L xs (9, 224) 42 1958 Post 42 1958 365 [some (.retAddr 0), some (.ref 0), some (.ref 24), some (.int (nI i))] [] h := by
  obtain ⟨t, r, nm, cnt, rc, rk, co, cu, tr, an, sg, am, pv, fen, tl, pre, hA, hC, hM⟩ := hS
  refine mj_aload_n d_Law_law_365 rfl ?_
  refine mj_oload_n d_Law_law_366 rfl ?_
  refine mj_iload_n d_Law_law_367 rfl ?_
  refine mj_iconst d_Law_law_368 (nI 1) (by decide) ?_
  refine mj_iadd d_Law_law_369 ?_
  rw [nI_add]
  refine mj_oaldN d_Law_law_370 rfl (by omega) ?_
  refine mj_virtual (d' := (0, 0)) (mc := 0) (ms := 0) (As := [_]) d_Law_law_371 cw_Pur_advance q_390 q_391 q_392 (ci := 5) rfl (CW_0 hC) rfl rfl (mRoomB rfl) ?_
  refine s_Pur_advance hA hC (fun z h1 hC1 => ?_) (fun n ln sn yn h1 hC1 => ?_)
  · obtain ⟨pre1, hM1⟩ := MW_C hM hC hC1
    refine mj_aload_n d_Law_law_374 rfl ?_
    refine mj_oload_n d_Law_law_375 rfl ?_
    refine mj_iload_n d_Law_law_376 rfl ?_
    refine mj_iconst d_Law_law_377 (nI 1) (by decide) ?_
    refine mj_iadd d_Law_law_378 ?_
    rw [nI_add]
    refine mj_oaldN d_Law_law_379 rfl (by omega) ?_
    refine mj_virtual (d' := (0, 0)) (mc := 0) (ms := 0) (As := [_]) d_Law_law_380 cw_Mod_advance q_695 q_696 q_697 (ci := 6) rfl (MW_24 hM1) rfl rfl (mRoomB rfl) ?_
    refine s_Mod_advance hA hM1 (fun z2 h2 hM2 => ?_) (fun m lm sm ym h2 hM2 => absurd ⟨m, lm, sm, ym⟩ z)
    refine mj_icmpeq d_Law_law_383 682 rfl (fun c_383 => ?_) (fun c_383 => ?_)
    · exact nx _ (SI_of hA hC1 hM1 hM2)
    · exact absurd rfl c_383
  · obtain ⟨pre1, hM1⟩ := MW_C hM hC hC1
    refine mj_aload_n d_Law_law_374 rfl ?_
    refine mj_oload_n d_Law_law_375 rfl ?_
    refine mj_iload_n d_Law_law_376 rfl ?_
    refine mj_iconst d_Law_law_377 (nI 1) (by decide) ?_
    refine mj_iadd d_Law_law_378 ?_
    rw [nI_add]
    refine mj_oaldN d_Law_law_379 rfl (by omega) ?_
    refine mj_virtual (d' := (0, 0)) (mc := 0) (ms := 0) (As := [_]) d_Law_law_380 cw_Mod_advance q_695 q_696 q_697 (ci := 6) rfl (MW_24 hM1) rfl rfl (mRoomB rfl) ?_
    refine s_Mod_advance hA hM1 (fun z2 h2 hM2 => absurd ⟨n, ln, sn, yn⟩ z2) (fun m lm sm ym h2 hM2 => ?_)
    obtain rfl : n = m := nI_inj (by omega) (by omega) (yn.symm.trans ym)
    refine mj_icmpeq d_Law_law_383 682 rfl (fun c_383 => ?_) (fun c_383 => ?_)
    · exact nx _ (SI_of ⟨hA.1, hA.2.1, hA.2.2.1, hA.2.2.2.1, hA.2.2.2.2.1, hA.2.2.2.2.2.1, by omega, hA.2.2.2.2.2.2.2⟩ hC1 hM1 hM2)
    · exact absurd rfl c_383
theorem lb_10 {L : Nat} {xs : Nat → Int32} {Post : Option Value → mHeap → Prop} {i : Nat} {h : mHeap} (hL : L ≤ 4097) (hi : i + 8 ≤ L) (hS : SI h) (nx : ∀ h', SI h' → mGo M_Law_law L xs (9, 224) 42 1958 Post 42 1958 682 [some (.retAddr 0), some (.ref 0), some (.ref 24), some (.int (nI i))] [] h') : mGo M_Law_law L xs (9, 224) 42 1958 Post 42 1958 388 [some (.retAddr 0), some (.ref 0), some (.ref 24), some (.int (nI i))] [] h := by
  obtain ⟨t, r, nm, cnt, rc, rk, co, cu, tr, an, sg, am, pv, fen, tl, pre, hA, hC, hM⟩ := hS
  refine mj_aload_n d_Law_law_388 rfl ?_
  refine mj_oload_n d_Law_law_389 rfl ?_
  refine mj_iload_n d_Law_law_390 rfl ?_
  refine mj_iconst d_Law_law_391 (nI 1) (by decide) ?_
  refine mj_iadd d_Law_law_392 ?_
  rw [nI_add]
  refine mj_oaldN d_Law_law_393 rfl (by omega) ?_
  refine mj_virtual (d' := (4, 111)) (mc := 0) (ms := 0) (As := [_]) d_Law_law_394 cw_Pur_seal q_395 q_396 q_397 (ci := 5) rfl (CW_0 hC) rfl rfl (mRoomB rfl) ?_
  refine s_Pur_seal hA hC (fun z h1 hC1 => ?_) (fun n ln yn h1 hC1 => ?_)
  · obtain ⟨pre1, hM1⟩ := MW_C hM hC hC1
    refine mj_aload_n d_Law_law_397 rfl ?_
    refine mj_oload_n d_Law_law_398 rfl ?_
    refine mj_iload_n d_Law_law_399 rfl ?_
    refine mj_iconst d_Law_law_400 (nI 1) (by decide) ?_
    refine mj_iadd d_Law_law_401 ?_
    rw [nI_add]
    refine mj_oaldN d_Law_law_402 rfl (by omega) ?_
    refine mj_virtual (d' := (3, 75)) (mc := 0) (ms := 0) (As := [_]) d_Law_law_403 cw_Mod_seal q_699 q_700 q_701 (ci := 6) rfl (MW_24 hM1) rfl rfl (mRoomB rfl) ?_
    refine s_Mod_seal hA hM1 (fun z2 h2 hM2 => ?_) (fun m lm ym h2 hM2 => absurd ⟨m, lm, ym⟩ z)
    refine mj_icmpeq d_Law_law_406 682 rfl (fun c_406 => ?_) (fun c_406 => ?_)
    · exact nx _ (SI_of hA hC1 hM1 hM2)
    · exact absurd rfl c_406
  · obtain ⟨pre1, hM1⟩ := MW_C hM hC hC1
    refine mj_aload_n d_Law_law_397 rfl ?_
    refine mj_oload_n d_Law_law_398 rfl ?_
    refine mj_iload_n d_Law_law_399 rfl ?_
    refine mj_iconst d_Law_law_400 (nI 1) (by decide) ?_
    refine mj_iadd d_Law_law_401 ?_
    rw [nI_add]
    refine mj_oaldN d_Law_law_402 rfl (by omega) ?_
    refine mj_virtual (d' := (3, 75)) (mc := 0) (ms := 0) (As := [_]) d_Law_law_403 cw_Mod_seal q_699 q_700 q_701 (ci := 6) rfl (MW_24 hM1) rfl rfl (mRoomB rfl) ?_
    refine s_Mod_seal hA hM1 (fun z2 h2 hM2 => absurd ⟨n, ln, yn⟩ z2) (fun m lm ym h2 hM2 => ?_)
    obtain rfl : n = m := nI_inj (by omega) (by omega) (yn.symm.trans ym)
    refine mj_icmpeq d_Law_law_406 682 rfl (fun c_406 => ?_) (fun c_406 => ?_)
    · exact nx _ (SI_of hA hC1 hM1 hM2)
    · exact absurd rfl c_406
theorem lb_11 {L : Nat} {xs : Nat → Int32} {Post : Option Value → mHeap → Prop} {i : Nat} {h : mHeap} (hL : L ≤ 4097) (hi : i + 8 ≤ L) (hS : SI h) (nx : ∀ h', SI h' → mGo M_Law_law L xs (9, 224) 42 1958 Post 42 1958 682 [some (.retAddr 0), some (.ref 0), some (.ref 24), some (.int (nI i))] [] h') : mGo M_Law_law L xs (9, 224) 42 1958 Post 42 1958 411 [some (.retAddr 0), some (.ref 0), some (.ref 24), some (.int (nI i))] [] h := by
  obtain ⟨t, r, nm, cnt, rc, rk, co, cu, tr, an, sg, am, pv, fen, tl, pre, hA, hC, hM⟩ := hS
  refine mj_aload_n d_Law_law_411 rfl ?_
  refine mj_oload_n d_Law_law_412 rfl ?_
  refine mj_iload_n d_Law_law_413 rfl ?_
  refine mj_iconst d_Law_law_414 (nI 1) (by decide) ?_
  refine mj_iadd d_Law_law_415 ?_
  rw [nI_add]
  refine mj_oaldN d_Law_law_416 rfl (by omega) ?_
  refine mj_i2l d_Law_law_417 ?_
  refine mj_bipush d_Law_law_418 (nI 32) (by decide) ?_
  refine mj_lshl d_Law_law_420 ?_
  refine mj_oload_n d_Law_law_421 rfl ?_
  refine mj_iload_n d_Law_law_422 rfl ?_
  refine mj_iconst d_Law_law_423 (nI 2) (by decide) ?_
  refine mj_iadd d_Law_law_424 ?_
  rw [nI_add]
  refine mj_oaldN d_Law_law_425 rfl (by omega) ?_
  refine mj_i2l d_Law_law_426 ?_
  refine mj_ldc2 d_Law_law_427 4294967295 q_773 ?_
  refine mj_land d_Law_law_430 ?_
  refine mj_lor d_Law_law_431 ?_
  refine mj_oload_n d_Law_law_432 rfl ?_
  refine mj_iload_n d_Law_law_433 rfl ?_
  refine mj_iconst d_Law_law_434 (nI 3) (by decide) ?_
  refine mj_iadd d_Law_law_435 ?_
  rw [nI_add]
  refine mj_oaldN d_Law_law_436 rfl (by omega) ?_
  refine mj_oload_n d_Law_law_437 rfl ?_
  refine mj_iload_n d_Law_law_438 rfl ?_
  refine mj_iconst d_Law_law_439 (nI 4) (by decide) ?_
  refine mj_iadd d_Law_law_440 ?_
  rw [nI_add]
  refine mj_oaldN d_Law_law_441 rfl (by omega) ?_
  refine mj_ifeq d_Law_law_442 449 rfl (fun c_442 => ?_) (fun c_442 => ?_)
  · refine mj_iconst d_Law_law_449 (nI 0) (by decide) ?_
    refine mj_virtual (d' := (4, 111)) (mc := 0) (ms := 0) (As := [_, _, _]) d_Law_law_450 cw_Pur_genuine q_401 q_402 q_403 (ci := 5) rfl (CW_0 hC) rfl rfl (mRoomB rfl) ?_
    obtain ⟨li, hC0⟩ := hC
    refine s_Pur_genuine (li := li) hA hC0 (by decide) (fun h1 hC2 => ?_)
    have hC1 := CW_l hC2
    obtain ⟨pre1, hM1⟩ := MW_C hM (CW_l hC0) hC1
    refine mj_aload_n d_Law_law_453 rfl ?_
    refine mj_oload_n d_Law_law_454 rfl ?_
    refine mj_iload_n d_Law_law_455 rfl ?_
    refine mj_iconst d_Law_law_456 (nI 1) (by decide) ?_
    refine mj_iadd d_Law_law_457 ?_
    rw [nI_add]
    refine mj_oaldN d_Law_law_458 rfl (by omega) ?_
    refine mj_i2l d_Law_law_459 ?_
    refine mj_bipush d_Law_law_460 (nI 32) (by decide) ?_
    refine mj_lshl d_Law_law_462 ?_
    refine mj_oload_n d_Law_law_463 rfl ?_
    refine mj_iload_n d_Law_law_464 rfl ?_
    refine mj_iconst d_Law_law_465 (nI 2) (by decide) ?_
    refine mj_iadd d_Law_law_466 ?_
    rw [nI_add]
    refine mj_oaldN d_Law_law_467 rfl (by omega) ?_
    refine mj_i2l d_Law_law_468 ?_
    refine mj_ldc2 d_Law_law_469 4294967295 q_773 ?_
    refine mj_land d_Law_law_472 ?_
    refine mj_lor d_Law_law_473 ?_
    refine mj_oload_n d_Law_law_474 rfl ?_
    refine mj_iload_n d_Law_law_475 rfl ?_
    refine mj_iconst d_Law_law_476 (nI 3) (by decide) ?_
    refine mj_iadd d_Law_law_477 ?_
    rw [nI_add]
    refine mj_oaldN d_Law_law_478 rfl (by omega) ?_
    refine mj_oload_n d_Law_law_479 rfl ?_
    refine mj_iload_n d_Law_law_480 rfl ?_
    refine mj_iconst d_Law_law_481 (nI 4) (by decide) ?_
    refine mj_iadd d_Law_law_482 ?_
    rw [nI_add]
    refine mj_oaldN d_Law_law_483 rfl (by omega) ?_
    refine mj_ifeq d_Law_law_484 491 rfl (fun c_484 => ?_) (fun c_484 => ?_)
    · refine mj_iconst d_Law_law_491 (nI 0) (by decide) ?_
      refine mj_virtual (d' := (4, 102)) (mc := 0) (ms := 0) (As := [_, _, _]) d_Law_law_492 cw_Mod_genuine q_703 q_704 q_705 (ci := 6) rfl (MW_24 hM1) rfl rfl (mRoomB rfl) ?_
      refine s_Mod_genuine hA hM1 (by decide) (fun h2 hM2 => ?_)
      refine mj_icmpeq d_Law_law_495 682 rfl (fun c_495 => ?_) (fun c_495 => ?_)
      · exact nx _ (SI_of hA hC1 hM1 hM2)
      · exact absurd rfl c_495
    · exact absurd c_442 c_484
  · refine mj_iconst d_Law_law_445 (nI 1) (by decide) ?_
    refine mj_goto d_Law_law_446 450 rfl ?_
    refine mj_virtual (d' := (4, 111)) (mc := 0) (ms := 0) (As := [_, _, _]) d_Law_law_450 cw_Pur_genuine q_401 q_402 q_403 (ci := 5) rfl (CW_0 hC) rfl rfl (mRoomB rfl) ?_
    obtain ⟨li, hC0⟩ := hC
    refine s_Pur_genuine (li := li) hA hC0 (by decide) (fun h1 hC2 => ?_)
    have hC1 := CW_l hC2
    obtain ⟨pre1, hM1⟩ := MW_C hM (CW_l hC0) hC1
    refine mj_aload_n d_Law_law_453 rfl ?_
    refine mj_oload_n d_Law_law_454 rfl ?_
    refine mj_iload_n d_Law_law_455 rfl ?_
    refine mj_iconst d_Law_law_456 (nI 1) (by decide) ?_
    refine mj_iadd d_Law_law_457 ?_
    rw [nI_add]
    refine mj_oaldN d_Law_law_458 rfl (by omega) ?_
    refine mj_i2l d_Law_law_459 ?_
    refine mj_bipush d_Law_law_460 (nI 32) (by decide) ?_
    refine mj_lshl d_Law_law_462 ?_
    refine mj_oload_n d_Law_law_463 rfl ?_
    refine mj_iload_n d_Law_law_464 rfl ?_
    refine mj_iconst d_Law_law_465 (nI 2) (by decide) ?_
    refine mj_iadd d_Law_law_466 ?_
    rw [nI_add]
    refine mj_oaldN d_Law_law_467 rfl (by omega) ?_
    refine mj_i2l d_Law_law_468 ?_
    refine mj_ldc2 d_Law_law_469 4294967295 q_773 ?_
    refine mj_land d_Law_law_472 ?_
    refine mj_lor d_Law_law_473 ?_
    refine mj_oload_n d_Law_law_474 rfl ?_
    refine mj_iload_n d_Law_law_475 rfl ?_
    refine mj_iconst d_Law_law_476 (nI 3) (by decide) ?_
    refine mj_iadd d_Law_law_477 ?_
    rw [nI_add]
    refine mj_oaldN d_Law_law_478 rfl (by omega) ?_
    refine mj_oload_n d_Law_law_479 rfl ?_
    refine mj_iload_n d_Law_law_480 rfl ?_
    refine mj_iconst d_Law_law_481 (nI 4) (by decide) ?_
    refine mj_iadd d_Law_law_482 ?_
    rw [nI_add]
    refine mj_oaldN d_Law_law_483 rfl (by omega) ?_
    refine mj_ifeq d_Law_law_484 491 rfl (fun c_484 => ?_) (fun c_484 => ?_)
    · exact absurd c_484 c_442
    · refine mj_iconst d_Law_law_487 (nI 1) (by decide) ?_
      refine mj_goto d_Law_law_488 492 rfl ?_
      refine mj_virtual (d' := (4, 102)) (mc := 0) (ms := 0) (As := [_, _, _]) d_Law_law_492 cw_Mod_genuine q_703 q_704 q_705 (ci := 6) rfl (MW_24 hM1) rfl rfl (mRoomB rfl) ?_
      refine s_Mod_genuine hA hM1 (by decide) (fun h2 hM2 => ?_)
      refine mj_icmpeq d_Law_law_495 682 rfl (fun c_495 => ?_) (fun c_495 => ?_)
      · exact nx _ (SI_of hA hC1 hM1 hM2)
      · exact absurd rfl c_495
theorem lb_12 {L : Nat} {xs : Nat → Int32} {Post : Option Value → mHeap → Prop} {i : Nat} {h : mHeap} (hL : L ≤ 4097) (hi : i + 8 ≤ L) (hS : SI h) (nx : ∀ h', SI h' → mGo M_Law_law L xs (9, 224) 42 1958 Post 42 1958 682 [some (.retAddr 0), some (.ref 0), some (.ref 24), some (.int (nI i))] [] h') : mGo M_Law_law L xs (9, 224) 42 1958 Post 42 1958 500 [some (.retAddr 0), some (.ref 0), some (.ref 24), some (.int (nI i))] [] h := by
  obtain ⟨t, r, nm, cnt, rc, rk, co, cu, tr, an, sg, am, pv, fen, tl, pre, hA, hC, hM⟩ := hS
  refine mj_aload_n d_Law_law_500 rfl ?_
  refine mj_oload_n d_Law_law_501 rfl ?_
  refine mj_iload_n d_Law_law_502 rfl ?_
  refine mj_iconst d_Law_law_503 (nI 1) (by decide) ?_
  refine mj_iadd d_Law_law_504 ?_
  rw [nI_add]
  refine mj_oaldN d_Law_law_505 rfl (by omega) ?_
  refine mj_i2l d_Law_law_506 ?_
  refine mj_bipush d_Law_law_507 (nI 32) (by decide) ?_
  refine mj_lshl d_Law_law_509 ?_
  refine mj_oload_n d_Law_law_510 rfl ?_
  refine mj_iload_n d_Law_law_511 rfl ?_
  refine mj_iconst d_Law_law_512 (nI 2) (by decide) ?_
  refine mj_iadd d_Law_law_513 ?_
  rw [nI_add]
  refine mj_oaldN d_Law_law_514 rfl (by omega) ?_
  refine mj_i2l d_Law_law_515 ?_
  refine mj_ldc2 d_Law_law_516 4294967295 q_773 ?_
  refine mj_land d_Law_law_519 ?_
  refine mj_lor d_Law_law_520 ?_
  refine mj_oload_n d_Law_law_521 rfl ?_
  refine mj_iload_n d_Law_law_522 rfl ?_
  refine mj_iconst d_Law_law_523 (nI 3) (by decide) ?_
  refine mj_iadd d_Law_law_524 ?_
  rw [nI_add]
  refine mj_oaldN d_Law_law_525 rfl (by omega) ?_
  refine mj_i2l d_Law_law_526 ?_
  refine mj_bipush d_Law_law_527 (nI 32) (by decide) ?_
  refine mj_lshl d_Law_law_529 ?_
  refine mj_oload_n d_Law_law_530 rfl ?_
  refine mj_iload_n d_Law_law_531 rfl ?_
  refine mj_iconst d_Law_law_532 (nI 4) (by decide) ?_
  refine mj_iadd d_Law_law_533 ?_
  rw [nI_add]
  refine mj_oaldN d_Law_law_534 rfl (by omega) ?_
  refine mj_i2l d_Law_law_535 ?_
  refine mj_ldc2 d_Law_law_536 4294967295 q_773 ?_
  refine mj_land d_Law_law_539 ?_
  refine mj_lor d_Law_law_540 ?_
  refine mj_oload_n d_Law_law_541 rfl ?_
  refine mj_iload_n d_Law_law_542 rfl ?_
  refine mj_iconst d_Law_law_543 (nI 5) (by decide) ?_
  refine mj_iadd d_Law_law_544 ?_
  rw [nI_add]
  refine mj_oaldN d_Law_law_545 rfl (by omega) ?_
  refine mj_oload_n d_Law_law_546 rfl ?_
  refine mj_iload_n d_Law_law_547 rfl ?_
  refine mj_bipush d_Law_law_548 (nI 6) (by decide) ?_
  refine mj_iadd d_Law_law_550 ?_
  rw [nI_add]
  refine mj_oaldN d_Law_law_551 rfl (by omega) ?_
  refine mj_oload_n d_Law_law_552 rfl ?_
  refine mj_iload_n d_Law_law_553 rfl ?_
  refine mj_bipush d_Law_law_554 (nI 7) (by decide) ?_
  refine mj_iadd d_Law_law_556 ?_
  rw [nI_add]
  refine mj_oaldN d_Law_law_557 rfl (by omega) ?_
  refine mj_ifeq d_Law_law_558 565 rfl (fun c_558 => ?_) (fun c_558 => ?_)
  · refine mj_iconst d_Law_law_565 (nI 0) (by decide) ?_
    refine mj_virtual (d' := (7, 187)) (mc := 0) (ms := 0) (As := [_, _, _, _, _]) d_Law_law_566 cw_Pur_pay q_418 q_419 q_420 (ci := 5) rfl (CW_0 hC) rfl rfl (mRoomB rfl) ?_
    obtain ⟨li, hC0⟩ := hC
    refine s_Pur_pay (li := li) hA hC0 (by decide) (fun z h1 hC1 => ?_) (fun z h1 hC1 => ?_)
    · obtain ⟨pre1, hM1⟩ := MW_C hM (CW_l hC0) hC1
      refine mj_aload_n d_Law_law_569 rfl ?_
      refine mj_oload_n d_Law_law_570 rfl ?_
      refine mj_iload_n d_Law_law_571 rfl ?_
      refine mj_iconst d_Law_law_572 (nI 1) (by decide) ?_
      refine mj_iadd d_Law_law_573 ?_
      rw [nI_add]
      refine mj_oaldN d_Law_law_574 rfl (by omega) ?_
      refine mj_i2l d_Law_law_575 ?_
      refine mj_bipush d_Law_law_576 (nI 32) (by decide) ?_
      refine mj_lshl d_Law_law_578 ?_
      refine mj_oload_n d_Law_law_579 rfl ?_
      refine mj_iload_n d_Law_law_580 rfl ?_
      refine mj_iconst d_Law_law_581 (nI 2) (by decide) ?_
      refine mj_iadd d_Law_law_582 ?_
      rw [nI_add]
      refine mj_oaldN d_Law_law_583 rfl (by omega) ?_
      refine mj_i2l d_Law_law_584 ?_
      refine mj_ldc2 d_Law_law_585 4294967295 q_773 ?_
      refine mj_land d_Law_law_588 ?_
      refine mj_lor d_Law_law_589 ?_
      refine mj_oload_n d_Law_law_590 rfl ?_
      refine mj_iload_n d_Law_law_591 rfl ?_
      refine mj_iconst d_Law_law_592 (nI 3) (by decide) ?_
      refine mj_iadd d_Law_law_593 ?_
      rw [nI_add]
      refine mj_oaldN d_Law_law_594 rfl (by omega) ?_
      refine mj_i2l d_Law_law_595 ?_
      refine mj_bipush d_Law_law_596 (nI 32) (by decide) ?_
      refine mj_lshl d_Law_law_598 ?_
      refine mj_oload_n d_Law_law_599 rfl ?_
      refine mj_iload_n d_Law_law_600 rfl ?_
      refine mj_iconst d_Law_law_601 (nI 4) (by decide) ?_
      refine mj_iadd d_Law_law_602 ?_
      rw [nI_add]
      refine mj_oaldN d_Law_law_603 rfl (by omega) ?_
      refine mj_i2l d_Law_law_604 ?_
      refine mj_ldc2 d_Law_law_605 4294967295 q_773 ?_
      refine mj_land d_Law_law_608 ?_
      refine mj_lor d_Law_law_609 ?_
      refine mj_oload_n d_Law_law_610 rfl ?_
      refine mj_iload_n d_Law_law_611 rfl ?_
      refine mj_iconst d_Law_law_612 (nI 5) (by decide) ?_
      refine mj_iadd d_Law_law_613 ?_
      rw [nI_add]
      refine mj_oaldN d_Law_law_614 rfl (by omega) ?_
      refine mj_oload_n d_Law_law_615 rfl ?_
      refine mj_iload_n d_Law_law_616 rfl ?_
      refine mj_bipush d_Law_law_617 (nI 6) (by decide) ?_
      refine mj_iadd d_Law_law_619 ?_
      rw [nI_add]
      refine mj_oaldN d_Law_law_620 rfl (by omega) ?_
      refine mj_oload_n d_Law_law_621 rfl ?_
      refine mj_iload_n d_Law_law_622 rfl ?_
      refine mj_bipush d_Law_law_623 (nI 7) (by decide) ?_
      refine mj_iadd d_Law_law_625 ?_
      rw [nI_add]
      refine mj_oaldN d_Law_law_626 rfl (by omega) ?_
      refine mj_ifeq d_Law_law_627 634 rfl (fun c_627 => ?_) (fun c_627 => ?_)
      · refine mj_iconst d_Law_law_634 (nI 0) (by decide) ?_
        refine mj_virtual (d' := (8, 193)) (mc := 0) (ms := 0) (As := [_, _, _, _, _]) d_Law_law_635 cw_Mod_pay q_719 q_720 q_721 (ci := 6) rfl (MW_24 hM1) rfl rfl (mRoomB rfl) ?_
        refine s_Mod_pay hA hM1 (by decide) (fun z2 h2 hM2 => ?_) (fun z2 _ _ _ _ => absurd z2 z)
        refine mj_icmpeq d_Law_law_638 682 rfl (fun c_638 => ?_) (fun c_638 => ?_)
        · exact nx _ (SI_of hA hC1 hM1 hM2)
        · exact absurd rfl c_638
      · exact absurd c_558 c_627
    · obtain ⟨pre1, hM1⟩ := MW_C hM (CW_l hC0) hC1
      refine mj_aload_n d_Law_law_569 rfl ?_
      refine mj_oload_n d_Law_law_570 rfl ?_
      refine mj_iload_n d_Law_law_571 rfl ?_
      refine mj_iconst d_Law_law_572 (nI 1) (by decide) ?_
      refine mj_iadd d_Law_law_573 ?_
      rw [nI_add]
      refine mj_oaldN d_Law_law_574 rfl (by omega) ?_
      refine mj_i2l d_Law_law_575 ?_
      refine mj_bipush d_Law_law_576 (nI 32) (by decide) ?_
      refine mj_lshl d_Law_law_578 ?_
      refine mj_oload_n d_Law_law_579 rfl ?_
      refine mj_iload_n d_Law_law_580 rfl ?_
      refine mj_iconst d_Law_law_581 (nI 2) (by decide) ?_
      refine mj_iadd d_Law_law_582 ?_
      rw [nI_add]
      refine mj_oaldN d_Law_law_583 rfl (by omega) ?_
      refine mj_i2l d_Law_law_584 ?_
      refine mj_ldc2 d_Law_law_585 4294967295 q_773 ?_
      refine mj_land d_Law_law_588 ?_
      refine mj_lor d_Law_law_589 ?_
      refine mj_oload_n d_Law_law_590 rfl ?_
      refine mj_iload_n d_Law_law_591 rfl ?_
      refine mj_iconst d_Law_law_592 (nI 3) (by decide) ?_
      refine mj_iadd d_Law_law_593 ?_
      rw [nI_add]
      refine mj_oaldN d_Law_law_594 rfl (by omega) ?_
      refine mj_i2l d_Law_law_595 ?_
      refine mj_bipush d_Law_law_596 (nI 32) (by decide) ?_
      refine mj_lshl d_Law_law_598 ?_
      refine mj_oload_n d_Law_law_599 rfl ?_
      refine mj_iload_n d_Law_law_600 rfl ?_
      refine mj_iconst d_Law_law_601 (nI 4) (by decide) ?_
      refine mj_iadd d_Law_law_602 ?_
      rw [nI_add]
      refine mj_oaldN d_Law_law_603 rfl (by omega) ?_
      refine mj_i2l d_Law_law_604 ?_
      refine mj_ldc2 d_Law_law_605 4294967295 q_773 ?_
      refine mj_land d_Law_law_608 ?_
      refine mj_lor d_Law_law_609 ?_
      refine mj_oload_n d_Law_law_610 rfl ?_
      refine mj_iload_n d_Law_law_611 rfl ?_
      refine mj_iconst d_Law_law_612 (nI 5) (by decide) ?_
      refine mj_iadd d_Law_law_613 ?_
      rw [nI_add]
      refine mj_oaldN d_Law_law_614 rfl (by omega) ?_
      refine mj_oload_n d_Law_law_615 rfl ?_
      refine mj_iload_n d_Law_law_616 rfl ?_
      refine mj_bipush d_Law_law_617 (nI 6) (by decide) ?_
      refine mj_iadd d_Law_law_619 ?_
      rw [nI_add]
      refine mj_oaldN d_Law_law_620 rfl (by omega) ?_
      refine mj_oload_n d_Law_law_621 rfl ?_
      refine mj_iload_n d_Law_law_622 rfl ?_
      refine mj_bipush d_Law_law_623 (nI 7) (by decide) ?_
      refine mj_iadd d_Law_law_625 ?_
      rw [nI_add]
      refine mj_oaldN d_Law_law_626 rfl (by omega) ?_
      refine mj_ifeq d_Law_law_627 634 rfl (fun c_627 => ?_) (fun c_627 => ?_)
      · refine mj_iconst d_Law_law_634 (nI 0) (by decide) ?_
        refine mj_virtual (d' := (8, 193)) (mc := 0) (ms := 0) (As := [_, _, _, _, _]) d_Law_law_635 cw_Mod_pay q_719 q_720 q_721 (ci := 6) rfl (MW_24 hM1) rfl rfl (mRoomB rfl) ?_
        refine s_Mod_pay hA hM1 (by decide) (fun z2 _ _ => absurd z z2) (fun z2 fen2 h2 hM2 hA2 => ?_)
        refine mj_icmpeq d_Law_law_638 682 rfl (fun c_638 => ?_) (fun c_638 => ?_)
        · exact nx _ (SI_of hA2 hC1 hM1 hM2)
        · exact absurd rfl c_638
      · exact absurd c_558 c_627
  · refine mj_iconst d_Law_law_561 (nI 1) (by decide) ?_
    refine mj_goto d_Law_law_562 566 rfl ?_
    refine mj_virtual (d' := (7, 187)) (mc := 0) (ms := 0) (As := [_, _, _, _, _]) d_Law_law_566 cw_Pur_pay q_418 q_419 q_420 (ci := 5) rfl (CW_0 hC) rfl rfl (mRoomB rfl) ?_
    obtain ⟨li, hC0⟩ := hC
    refine s_Pur_pay (li := li) hA hC0 (by decide) (fun z h1 hC1 => ?_) (fun z h1 hC1 => ?_)
    · obtain ⟨pre1, hM1⟩ := MW_C hM (CW_l hC0) hC1
      refine mj_aload_n d_Law_law_569 rfl ?_
      refine mj_oload_n d_Law_law_570 rfl ?_
      refine mj_iload_n d_Law_law_571 rfl ?_
      refine mj_iconst d_Law_law_572 (nI 1) (by decide) ?_
      refine mj_iadd d_Law_law_573 ?_
      rw [nI_add]
      refine mj_oaldN d_Law_law_574 rfl (by omega) ?_
      refine mj_i2l d_Law_law_575 ?_
      refine mj_bipush d_Law_law_576 (nI 32) (by decide) ?_
      refine mj_lshl d_Law_law_578 ?_
      refine mj_oload_n d_Law_law_579 rfl ?_
      refine mj_iload_n d_Law_law_580 rfl ?_
      refine mj_iconst d_Law_law_581 (nI 2) (by decide) ?_
      refine mj_iadd d_Law_law_582 ?_
      rw [nI_add]
      refine mj_oaldN d_Law_law_583 rfl (by omega) ?_
      refine mj_i2l d_Law_law_584 ?_
      refine mj_ldc2 d_Law_law_585 4294967295 q_773 ?_
      refine mj_land d_Law_law_588 ?_
      refine mj_lor d_Law_law_589 ?_
      refine mj_oload_n d_Law_law_590 rfl ?_
      refine mj_iload_n d_Law_law_591 rfl ?_
      refine mj_iconst d_Law_law_592 (nI 3) (by decide) ?_
      refine mj_iadd d_Law_law_593 ?_
      rw [nI_add]
      refine mj_oaldN d_Law_law_594 rfl (by omega) ?_
      refine mj_i2l d_Law_law_595 ?_
      refine mj_bipush d_Law_law_596 (nI 32) (by decide) ?_
      refine mj_lshl d_Law_law_598 ?_
      refine mj_oload_n d_Law_law_599 rfl ?_
      refine mj_iload_n d_Law_law_600 rfl ?_
      refine mj_iconst d_Law_law_601 (nI 4) (by decide) ?_
      refine mj_iadd d_Law_law_602 ?_
      rw [nI_add]
      refine mj_oaldN d_Law_law_603 rfl (by omega) ?_
      refine mj_i2l d_Law_law_604 ?_
      refine mj_ldc2 d_Law_law_605 4294967295 q_773 ?_
      refine mj_land d_Law_law_608 ?_
      refine mj_lor d_Law_law_609 ?_
      refine mj_oload_n d_Law_law_610 rfl ?_
      refine mj_iload_n d_Law_law_611 rfl ?_
      refine mj_iconst d_Law_law_612 (nI 5) (by decide) ?_
      refine mj_iadd d_Law_law_613 ?_
      rw [nI_add]
      refine mj_oaldN d_Law_law_614 rfl (by omega) ?_
      refine mj_oload_n d_Law_law_615 rfl ?_
      refine mj_iload_n d_Law_law_616 rfl ?_
      refine mj_bipush d_Law_law_617 (nI 6) (by decide) ?_
      refine mj_iadd d_Law_law_619 ?_
      rw [nI_add]
      refine mj_oaldN d_Law_law_620 rfl (by omega) ?_
      refine mj_oload_n d_Law_law_621 rfl ?_
      refine mj_iload_n d_Law_law_622 rfl ?_
      refine mj_bipush d_Law_law_623 (nI 7) (by decide) ?_
      refine mj_iadd d_Law_law_625 ?_
      rw [nI_add]
      refine mj_oaldN d_Law_law_626 rfl (by omega) ?_
      refine mj_ifeq d_Law_law_627 634 rfl (fun c_627 => ?_) (fun c_627 => ?_)
      · exact absurd c_627 c_558
      · refine mj_iconst d_Law_law_630 (nI 1) (by decide) ?_
        refine mj_goto d_Law_law_631 635 rfl ?_
        refine mj_virtual (d' := (8, 193)) (mc := 0) (ms := 0) (As := [_, _, _, _, _]) d_Law_law_635 cw_Mod_pay q_719 q_720 q_721 (ci := 6) rfl (MW_24 hM1) rfl rfl (mRoomB rfl) ?_
        refine s_Mod_pay hA hM1 (by decide) (fun z2 h2 hM2 => ?_) (fun z2 _ _ _ _ => absurd z2 z)
        refine mj_icmpeq d_Law_law_638 682 rfl (fun c_638 => ?_) (fun c_638 => ?_)
        · exact nx _ (SI_of hA hC1 hM1 hM2)
        · exact absurd rfl c_638
    · obtain ⟨pre1, hM1⟩ := MW_C hM (CW_l hC0) hC1
      refine mj_aload_n d_Law_law_569 rfl ?_
      refine mj_oload_n d_Law_law_570 rfl ?_
      refine mj_iload_n d_Law_law_571 rfl ?_
      refine mj_iconst d_Law_law_572 (nI 1) (by decide) ?_
      refine mj_iadd d_Law_law_573 ?_
      rw [nI_add]
      refine mj_oaldN d_Law_law_574 rfl (by omega) ?_
      refine mj_i2l d_Law_law_575 ?_
      refine mj_bipush d_Law_law_576 (nI 32) (by decide) ?_
      refine mj_lshl d_Law_law_578 ?_
      refine mj_oload_n d_Law_law_579 rfl ?_
      refine mj_iload_n d_Law_law_580 rfl ?_
      refine mj_iconst d_Law_law_581 (nI 2) (by decide) ?_
      refine mj_iadd d_Law_law_582 ?_
      rw [nI_add]
      refine mj_oaldN d_Law_law_583 rfl (by omega) ?_
      refine mj_i2l d_Law_law_584 ?_
      refine mj_ldc2 d_Law_law_585 4294967295 q_773 ?_
      refine mj_land d_Law_law_588 ?_
      refine mj_lor d_Law_law_589 ?_
      refine mj_oload_n d_Law_law_590 rfl ?_
      refine mj_iload_n d_Law_law_591 rfl ?_
      refine mj_iconst d_Law_law_592 (nI 3) (by decide) ?_
      refine mj_iadd d_Law_law_593 ?_
      rw [nI_add]
      refine mj_oaldN d_Law_law_594 rfl (by omega) ?_
      refine mj_i2l d_Law_law_595 ?_
      refine mj_bipush d_Law_law_596 (nI 32) (by decide) ?_
      refine mj_lshl d_Law_law_598 ?_
      refine mj_oload_n d_Law_law_599 rfl ?_
      refine mj_iload_n d_Law_law_600 rfl ?_
      refine mj_iconst d_Law_law_601 (nI 4) (by decide) ?_
      refine mj_iadd d_Law_law_602 ?_
      rw [nI_add]
      refine mj_oaldN d_Law_law_603 rfl (by omega) ?_
      refine mj_i2l d_Law_law_604 ?_
      refine mj_ldc2 d_Law_law_605 4294967295 q_773 ?_
      refine mj_land d_Law_law_608 ?_
      refine mj_lor d_Law_law_609 ?_
      refine mj_oload_n d_Law_law_610 rfl ?_
      refine mj_iload_n d_Law_law_611 rfl ?_
      refine mj_iconst d_Law_law_612 (nI 5) (by decide) ?_
      refine mj_iadd d_Law_law_613 ?_
      rw [nI_add]
      refine mj_oaldN d_Law_law_614 rfl (by omega) ?_
      refine mj_oload_n d_Law_law_615 rfl ?_
      refine mj_iload_n d_Law_law_616 rfl ?_
      refine mj_bipush d_Law_law_617 (nI 6) (by decide) ?_
      refine mj_iadd d_Law_law_619 ?_
      rw [nI_add]
      refine mj_oaldN d_Law_law_620 rfl (by omega) ?_
      refine mj_oload_n d_Law_law_621 rfl ?_
      refine mj_iload_n d_Law_law_622 rfl ?_
      refine mj_bipush d_Law_law_623 (nI 7) (by decide) ?_
      refine mj_iadd d_Law_law_625 ?_
      rw [nI_add]
      refine mj_oaldN d_Law_law_626 rfl (by omega) ?_
      refine mj_ifeq d_Law_law_627 634 rfl (fun c_627 => ?_) (fun c_627 => ?_)
      · exact absurd c_627 c_558
      · refine mj_iconst d_Law_law_630 (nI 1) (by decide) ?_
        refine mj_goto d_Law_law_631 635 rfl ?_
        refine mj_virtual (d' := (8, 193)) (mc := 0) (ms := 0) (As := [_, _, _, _, _]) d_Law_law_635 cw_Mod_pay q_719 q_720 q_721 (ci := 6) rfl (MW_24 hM1) rfl rfl (mRoomB rfl) ?_
        refine s_Mod_pay hA hM1 (by decide) (fun z2 _ _ => absurd z z2) (fun z2 fen2 h2 hM2 hA2 => ?_)
        refine mj_icmpeq d_Law_law_638 682 rfl (fun c_638 => ?_) (fun c_638 => ?_)
        · exact nx _ (SI_of hA2 hC1 hM1 hM2)
        · exact absurd rfl c_638
theorem lb_13 {L : Nat} {xs : Nat → Int32} {Post : Option Value → mHeap → Prop} {i : Nat} {h : mHeap} (hL : L ≤ 4097) (hi : i + 8 ≤ L) (hS : SI h) (nx : ∀ h', SI h' → mGo M_Law_law L xs (9, 224) 42 1958 Post 42 1958 682 [some (.retAddr 0), some (.ref 0), some (.ref 24), some (.int (nI i))] [] h') : mGo M_Law_law L xs (9, 224) 42 1958 Post 42 1958 643 [some (.retAddr 0), some (.ref 0), some (.ref 24), some (.int (nI i))] [] h := by
  obtain ⟨t, r, nm, cnt, rc, rk, co, cu, tr, an, sg, am, pv, fen, tl, pre, hA, hC, hM⟩ := hS
  refine mj_aload_n d_Law_law_643 rfl ?_
  refine mj_virtual (d' := (0, 0)) (mc := 0) (ms := 0) (As := []) d_Law_law_644 cw_Pur_stage q_454 q_455 q_456 (ci := 5) rfl (CW_0 hC) rfl rfl (mRoomB rfl) ?_
  refine s_Pur_stage hA hC (fun h1 hC1 => ?_)
  obtain ⟨pre1, hM1⟩ := MW_C hM hC hC1
  refine mj_aload_n d_Law_law_647 rfl ?_
  refine mj_virtual (d' := (0, 0)) (mc := 0) (ms := 0) (As := []) d_Law_law_648 cw_Mod_stage q_761 q_762 q_763 (ci := 6) rfl (MW_24 hM1) rfl rfl (mRoomB rfl) ?_
  refine s_Mod_stage hA hM1 (fun h2 hM2 => ?_)
  refine mj_icmpeq d_Law_law_651 682 rfl (fun c_651 => ?_) (fun c_651 => ?_)
  · exact nx _ (SI_of hA hC1 hM1 hM2)
  · exact absurd rfl c_651
theorem lb_14 {L : Nat} {xs : Nat → Int32} {Post : Option Value → mHeap → Prop} {i : Nat} {h : mHeap} (hL : L ≤ 4097) (hi : i + 8 ≤ L) (hS : SI h) (nx : ∀ h', SI h' → mGo M_Law_law L xs (9, 224) 42 1958 Post 42 1958 682 [some (.retAddr 0), some (.ref 0), some (.ref 24), some (.int (nI i))] [] h') : mGo M_Law_law L xs (9, 224) 42 1958 Post 42 1958 656 [some (.retAddr 0), some (.ref 0), some (.ref 24), some (.int (nI i))] [] h := by
  obtain ⟨t, r, nm, cnt, rc, rk, co, cu, tr, an, sg, am, pv, fen, tl, pre, hA, hC, hM⟩ := hS
  refine mj_aload_n d_Law_law_656 rfl ?_
  refine mj_virtual (d' := (0, 0)) (mc := 0) (ms := 0) (As := []) d_Law_law_657 cw_Pur_counter q_458 q_459 q_460 (ci := 5) rfl (CW_0 hC) rfl rfl (mRoomB rfl) ?_
  refine s_Pur_counter hA hC (fun h1 hC1 => ?_)
  obtain ⟨pre1, hM1⟩ := MW_C hM hC hC1
  refine mj_aload_n d_Law_law_660 rfl ?_
  refine mj_virtual (d' := (0, 0)) (mc := 0) (ms := 0) (As := []) d_Law_law_661 cw_Mod_counter q_765 q_766 q_767 (ci := 6) rfl (MW_24 hM1) rfl rfl (mRoomB rfl) ?_
  refine s_Mod_counter hA hM1 (fun h2 hM2 => ?_)
  refine mj_icmpeq d_Law_law_664 682 rfl (fun c_664 => ?_) (fun c_664 => ?_)
  · exact nx _ (SI_of hA hC1 hM1 hM2)
  · exact absurd rfl c_664
theorem lb_15 {L : Nat} {xs : Nat → Int32} {Post : Option Value → mHeap → Prop} {i : Nat} {h : mHeap} (hL : L ≤ 4097) (hi : i + 8 ≤ L) (hS : SI h) (nx : ∀ h', SI h' → mGo M_Law_law L xs (9, 224) 42 1958 Post 42 1958 682 [some (.retAddr 0), some (.ref 0), some (.ref 24), some (.int (nI i))] [] h') : mGo M_Law_law L xs (9, 224) 42 1958 Post 42 1958 669 [some (.retAddr 0), some (.ref 0), some (.ref 24), some (.int (nI i))] [] h := by
  obtain ⟨t, r, nm, cnt, rc, rk, co, cu, tr, an, sg, am, pv, fen, tl, pre, hA, hC, hM⟩ := hS
  refine mj_aload_n d_Law_law_669 rfl ?_
  refine mj_virtual (d' := (0, 0)) (mc := 0) (ms := 0) (As := []) d_Law_law_670 cw_Pur_tries q_462 q_463 q_464 (ci := 5) rfl (CW_0 hC) rfl rfl (mRoomB rfl) ?_
  refine s_Pur_tries hA hC (fun h1 hC1 => ?_)
  obtain ⟨pre1, hM1⟩ := MW_C hM hC hC1
  refine mj_aload_n d_Law_law_673 rfl ?_
  refine mj_virtual (d' := (0, 0)) (mc := 0) (ms := 0) (As := []) d_Law_law_674 cw_Mod_tries q_769 q_770 q_771 (ci := 6) rfl (MW_24 hM1) rfl rfl (mRoomB rfl) ?_
  refine s_Mod_tries hA hM1 (fun h2 hM2 => ?_)
  refine mj_icmpeq d_Law_law_677 682 rfl (fun c_677 => ?_) (fun c_677 => ?_)
  · exact nx _ (SI_of hA hC1 hM1 hM2)
  · exact absurd rfl c_677
theorem lw_loop {L : Nat} {xs : Nat → Int32} {Post : Option Value → mHeap → Prop} (hL : L ≤ 4097) (ke : ∀ h, Post (some (.int (nI 1))) h) : ∀ (m i : Nat) (h : mHeap), L ≤ i + 7 + 8 * m → i + 8 * m ≤ 5000 → SI h → mGo M_Law_law L xs (9, 224) 42 1958 Post 42 1958 28 [some (.retAddr 0), some (.ref 0), some (.ref 24), some (.int (nI i))] [] h := by
  intro m
  induction m with
  | zero =>
    intro i h hm hi hS
    by_cases h8 : L < 8
    · refine mj_iload_n d_Law_law_28 rfl ?_
      refine mj_oload_n d_Law_law_29 rfl ?_
      refine mj_olen d_Law_law_30 rfl ?_
      refine mj_bipush d_Law_law_31 (nI 8) (by decide) ?_
      refine mj_isub d_Law_law_33 ?_
      refine mj_icmpgt d_Law_law_34 688 rfl (fun c_34 => ?_) (fun c_34 => ?_)
      · refine mj_iconst d_Law_law_688 (nI 1) (by decide) ?_
        refine mj_iret d_Law_law_689 rfl (by decide) (Nat.le_refl _) (Nat.le_refl _) ?_
        exact ke h
      · exact absurd (lt_nn (neg8 L h8) (nI_nn (by omega))) c_34
    · refine mj_iload_n d_Law_law_28 rfl ?_
      refine mj_oload_n d_Law_law_29 rfl ?_
      refine mj_olen d_Law_law_30 rfl ?_
      refine mj_bipush d_Law_law_31 (nI 8) (by decide) ?_
      refine mj_isub d_Law_law_33 ?_
      rw [show Int32.ofNat L - nI 8 = nI (L - 8) from pk_sub (by omega)]
      refine mj_icmpgtN d_Law_law_34 688 rfl (by omega) (fun c_34 => ?_) (fun c_34 => ?_)
      · refine mj_iconst d_Law_law_688 (nI 1) (by decide) ?_
        refine mj_iret d_Law_law_689 rfl (by decide) (Nat.le_refl _) (Nat.le_refl _) ?_
        exact ke h
      · omega
  | succ m ih =>
    intro i h hm hi hS
    by_cases h8 : L < 8
    · refine mj_iload_n d_Law_law_28 rfl ?_
      refine mj_oload_n d_Law_law_29 rfl ?_
      refine mj_olen d_Law_law_30 rfl ?_
      refine mj_bipush d_Law_law_31 (nI 8) (by decide) ?_
      refine mj_isub d_Law_law_33 ?_
      refine mj_icmpgt d_Law_law_34 688 rfl (fun c_34 => ?_) (fun c_34 => ?_)
      · refine mj_iconst d_Law_law_688 (nI 1) (by decide) ?_
        refine mj_iret d_Law_law_689 rfl (by decide) (Nat.le_refl _) (Nat.le_refl _) ?_
        exact ke h
      · exact absurd (lt_nn (neg8 L h8) (nI_nn (by omega))) c_34
    · have nx : ∀ h', SI h' → mGo M_Law_law L xs (9, 224) 42 1958 Post 42 1958 682 [some (.retAddr 0), some (.ref 0), some (.ref 24), some (.int (nI i))] [] h' := by
        intro h' hS'
        refine mj_iinc d_Law_law_682 rfl (by decide) (nI (i + 8)) (by rw [show Int32.ofInt 8 = nI 8 from rfl, nI_add]) ?_
        dsimp only [mSt1, mSt2, mKill, Nat.reduceAdd]
        refine mj_goto d_Law_law_685 28 rfl ?_
        exact ih (i + 8) h' (by omega) (by omega) hS'
      refine mj_iload_n d_Law_law_28 rfl ?_
      refine mj_oload_n d_Law_law_29 rfl ?_
      refine mj_olen d_Law_law_30 rfl ?_
      refine mj_bipush d_Law_law_31 (nI 8) (by decide) ?_
      refine mj_isub d_Law_law_33 ?_
      rw [show Int32.ofNat L - nI 8 = nI (L - 8) from pk_sub (by omega)]
      refine mj_icmpgtN d_Law_law_34 688 rfl (by omega) (fun c_34 => ?_) (fun c_34 => ?_)
      · refine mj_iconst d_Law_law_688 (nI 1) (by decide) ?_
        refine mj_iret d_Law_law_689 rfl (by decide) (Nat.le_refl _) (Nat.le_refl _) ?_
        exact ke h
      · refine mj_oload_n d_Law_law_37 rfl ?_
        refine mj_iload_n d_Law_law_38 rfl ?_
        refine mj_oaldN d_Law_law_39 rfl (by omega) ?_
        refine mj_bipush d_Law_law_40 (nI 15) (by decide) ?_
        refine mj_iand d_Law_law_42 ?_
        obtain ⟨q, hq, eq⟩ := and15 (xs i)
        rw [eq]
        rcases (show q = 0 ∨ q = 1 ∨ q = 2 ∨ q = 3 ∨ q = 4 ∨ q = 5 ∨ q = 6 ∨ q = 7 ∨ q = 8 ∨ q = 9 ∨ q = 10 ∨ q = 11 ∨ q = 12 ∨ q = 13 ∨ q = 14 ∨ q = 15 by omega) with rfl | rfl | rfl | rfl | rfl | rfl | rfl | rfl | rfl | rfl | rfl | rfl | rfl | rfl | rfl | rfl
        · refine mj_tableIn d_Law_law_43 (by decide) (by decide) (off := 77) (by decide) 120 rfl ?_
          exact lb_0 hL (by omega) hS nx
        · refine mj_tableIn d_Law_law_43 (by decide) (by decide) (off := 100) (by decide) 143 rfl ?_
          exact lb_1 hL (by omega) hS nx
        · refine mj_tableIn d_Law_law_43 (by decide) (by decide) (off := 113) (by decide) 156 rfl ?_
          exact lb_2 hL (by omega) hS nx
        · refine mj_tableIn d_Law_law_43 (by decide) (by decide) (off := 126) (by decide) 169 rfl ?_
          exact lb_3 hL (by omega) hS nx
        · refine mj_tableIn d_Law_law_43 (by decide) (by decide) (off := 139) (by decide) 182 rfl ?_
          exact lb_4 hL (by omega) hS nx
        · refine mj_tableIn d_Law_law_43 (by decide) (by decide) (off := 162) (by decide) 205 rfl ?_
          exact lb_5 hL (by omega) hS nx
        · refine mj_tableIn d_Law_law_43 (by decide) (by decide) (off := 185) (by decide) 228 rfl ?_
          exact lb_6 hL (by omega) hS nx
        · refine mj_tableIn d_Law_law_43 (by decide) (by decide) (off := 208) (by decide) 251 rfl ?_
          exact lb_7 hL (by omega) hS nx
        · refine mj_tableIn d_Law_law_43 (by decide) (by decide) (off := 299) (by decide) 342 rfl ?_
          exact lb_8 hL (by omega) hS nx
        · refine mj_tableIn d_Law_law_43 (by decide) (by decide) (off := 322) (by decide) 365 rfl ?_
          exact lb_9 hL (by omega) hS nx
        · refine mj_tableIn d_Law_law_43 (by decide) (by decide) (off := 345) (by decide) 388 rfl ?_
          exact lb_10 hL (by omega) hS nx
        · refine mj_tableIn d_Law_law_43 (by decide) (by decide) (off := 368) (by decide) 411 rfl ?_
          exact lb_11 hL (by omega) hS nx
        · refine mj_tableIn d_Law_law_43 (by decide) (by decide) (off := 457) (by decide) 500 rfl ?_
          exact lb_12 hL (by omega) hS nx
        · refine mj_tableIn d_Law_law_43 (by decide) (by decide) (off := 600) (by decide) 643 rfl ?_
          exact lb_13 hL (by omega) hS nx
        · refine mj_tableIn d_Law_law_43 (by decide) (by decide) (off := 613) (by decide) 656 rfl ?_
          exact lb_14 hL (by omega) hS nx
        · refine mj_tableIn d_Law_law_43 (by decide) (by decide) (off := 626) (by decide) 669 rfl ?_
          exact lb_15 hL (by omega) hS nx
