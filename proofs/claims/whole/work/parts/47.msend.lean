/-- how the model holds the abstract state; pre: the class's cells -/
def MRp (t r nm : List Nat) (cnt : Nat → Nat) (rc : Nat → List Nat) (rk : Nat → Nat) (co : Nat) (fr fo fnm fdig frc frl frb fta frd : Nat → Int32) : Prop := Rf t fr ∧ Rf r fo ∧ Rf nm fnm ∧ FA 4 (dgF co) fdig ∧ FR cnt rc frb frl frc ∧ FA 256 sbN fta ∧ FA 176 rk frd
def MW (fen : Nat → Int32) (t r nm : List Nat) (cnt : Nat → Nat) (rc : Nat → List Nat) (rk : Nat → Nat) (co cu tr an sg am pv : Nat) (pre h : mHeap) : Prop := ∃ (h0 : mHeap) (fkey fdig fnm frc frl frb fta frd fbl fmo fse fre fma fend fr fo : Nat → Int32), MRp t r nm cnt rc rk co fr fo fnm fdig frc frl frb fta frd ∧ MB h0 fkey fdig fnm frc frl frb fen fta frd fbl fmo fse fre fma fend ∧ h0.take 24 = pre ∧ h = pP h0 (cMod cu tr an sg am pv t.length r.length) fr fo
theorem cm_16 {i : Nat} (h : cmN i ≠ 0) : cmN i = 1 ∨ cmN i = 2 ∨ cmN i = 3 ∨ cmN i = 4 ∨ cmN i = 5 ∨ cmN i = 6 := by
  rcases cm_cases h with rfl | rfl | rfl | rfl | rfl | rfl <;> decide
theorem fa1 {t : List Nat} {sg cu : Nat} (h : ¬ wfR t) : faultN t sg cu = 26368 := by unfold faultN; rw [if_pos h]
theorem fa2 {t : List Nat} {sg cu : Nat} (h : wfR t) (h2 : t.getD 0 0 ≠ 0 ∧ t.getD 0 0 ≠ 128) : faultN t sg cu = 28160 := by unfold faultN; rw [if_neg (Decidable.not_not.mpr h), if_pos h2]
theorem fa3 {t : List Nat} {sg cu : Nat} (h : wfR t) (h2 : ¬ (t.getD 0 0 ≠ 0 ∧ t.getD 0 0 ≠ 128)) (h3 : cmN (insN t) = 0) : faultN t sg cu = 27904 := by unfold faultN; rw [if_neg (Decidable.not_not.mpr h), if_neg h2, if_pos h3]
theorem fa4 {t : List Nat} {sg cu : Nat} (h : wfR t) (h2 : ¬ (t.getD 0 0 ≠ 0 ∧ t.getD 0 0 ≠ 128)) (h3 : cmN (insN t) ≠ 0) (h4 : ¬ parOk (cmN (insN t)) (t.getD 2 0) (t.getD 3 0)) : faultN t sg cu = 27270 := by unfold faultN; rw [if_neg (Decidable.not_not.mpr h), if_neg h2, if_neg h3, if_pos h4]
theorem fa5 {t : List Nat} {sg cu : Nat} (h : wfR t) (h2 : ¬ (t.getD 0 0 ≠ 0 ∧ t.getD 0 0 ≠ 128)) (h3 : cmN (insN t) ≠ 0) (h4 : parOk (cmN (insN t)) (t.getD 2 0) (t.getD 3 0)) (h5 : ¬ stgOk (cmN (insN t)) sg cu) : faultN t sg cu = 27013 := by unfold faultN; rw [if_neg (Decidable.not_not.mpr h), if_neg h2, if_neg h3, if_neg (Decidable.not_not.mpr h4), if_pos h5]
theorem fa6 {t : List Nat} {sg cu : Nat} (h : wfR t) (h2 : ¬ (t.getD 0 0 ≠ 0 ∧ t.getD 0 0 ≠ 128)) (h3 : cmN (insN t) ≠ 0) (h4 : parOk (cmN (insN t)) (t.getD 2 0) (t.getD 3 0)) (h5 : stgOk (cmN (insN t)) sg cu) (h6 : ¬ datOk (cmN (insN t)) (datN t) sg) : faultN t sg cu = 26368 := by unfold faultN; rw [if_neg (Decidable.not_not.mpr h), if_neg h2, if_neg h3, if_neg (Decidable.not_not.mpr h4), if_neg (Decidable.not_not.mpr h5), if_pos h6]
theorem fa7 {t : List Nat} {sg cu : Nat} (h : wfR t) (h2 : ¬ (t.getD 0 0 ≠ 0 ∧ t.getD 0 0 ≠ 128)) (h3 : cmN (insN t) ≠ 0) (h4 : parOk (cmN (insN t)) (t.getD 2 0) (t.getD 3 0)) (h5 : stgOk (cmN (insN t)) sg cu) (h6 : datOk (cmN (insN t)) (datN t) sg) : faultN t sg cu = 36864 := by unfold faultN; rw [if_neg (Decidable.not_not.mpr h), if_neg h2, if_neg h3, if_neg (Decidable.not_not.mpr h4), if_neg (Decidable.not_not.mpr h5), if_neg (Decidable.not_not.mpr h6)]
theorem MW_24 {fen : Nat → Int32} {t r nm : List Nat} {cnt : Nat → Nat} {rc : Nat → List Nat} {rk : Nat → Nat} {co cu tr an sg am pv : Nat} {pre h : mHeap} (hW : MW fen t r nm cnt rc rk co cu tr an sg am pv pre h) : h[24]? = some (cMod cu tr an sg am pv t.length r.length) := by
  obtain ⟨h0, fkey, fdig, fnm, frc, frl, frb, fta, frd, fbl, fmo, fse, fre, fma, fend, fr, fo, hM, hB, hq, rfl⟩ := hW
  exact (pP_24 hB.1)
theorem cm_lt (i : Nat) : cmN i < 7 := by
  unfold cmN
  repeat' split
  all_goals decide
theorem s_Mod_take {L : Nat} {xs : Nat → Int32} {Post : Option Value → mHeap → Prop} {fen : Nat → Int32} {t r nm : List Nat} {cnt : Nat → Nat} {rc : Nat → List Nat} {rk : Nat → Nat} {co cu tr an sg am pv : Nat} {pre h : mHeap} (hA : AI t r nm cnt rc rk co cu tr an sg am pv) (hW : MW fen t r nm cnt rc rk co cu tr an sg am pv pre h) (kk : ∀ (S : R8) (h' : mHeap), S = (sendF t nm cnt rc rk co cu tr an sg am pv) → MW fen t S.2.1 nm cnt rc rk co S.2.2.1 S.2.2.2.1 S.2.2.2.2.1 S.2.2.2.2.2.1 S.2.2.2.2.2.2.1 S.2.2.2.2.2.2.2 pre h' → Post (some (.int (nI S.1))) h') : mMet M_Mod_take L xs (5, 125) 0 0 [.ref 24] h Post := by
  obtain ⟨h0, fkey, fdig, fnm, frc, frl, frb, fta, frd, fbl, fmo, fse, fre, fma, fend, fr, fo, ⟨ht, hr, hnm, hdg, hF, hta, hrd⟩, hB, hq, rfl⟩ := hW
  refine mMet_of rfl (Nat.le_of_ble_eq_true rfl) ?_
  have hbt := hA.1.1
  have htl := hA.1.2
  have b0 := getD_lt hbt 0
  have b4 := getD_lt hbt 4
  have rest2 : wfR t → ¬ (t.getD 0 0 ≠ 0 ∧ t.getD 0 0 ≠ 128) → mGo M_Mod_take L xs (5, 125) 0 0 Post 0 0 74 [some (.ref 24), none] [] (pP h0 (cMod cu tr an sg am pv (t).length (([] : List Nat)).length) fr fo) := by
    intro w1 wc
    refine mj_aload_n d_Mod_take_74 rfl ?_
    refine mj_virtual (d' := (0, 0)) (mc := 0) (ms := 0) (As := []) d_Mod_take_75 cw_Mod_command q_588 q_590 qs_Mod_command (ci := 6) rfl (pP_24 hB.1) rfl rfl (mRoomB rfl) ?_
    refine s_Mod_command hB (r := []) ht (fun j hj => by cases hj) hA.1.2 hA.1.1 (by omega) ?_
    refine mj_istore_n d_Mod_take_78 (by decide) ?_
    dsimp only [mSt1, mSt2, mKill, Nat.reduceAdd]
    refine mj_iload_n d_Mod_take_79 rfl ?_
    refine mj_ifneN d_Mod_take_80 87 rfl (by have := cm_lt (insN t); omega) (fun c_80 => ?_) (fun c_80 => ?_)
    · have w2 : cmN (insN t) ≠ 0 := c_80
      have hc6 := cm_16 w2
      refine mj_aload_n d_Mod_take_87 rfl ?_
      refine mj_iload_n d_Mod_take_88 rfl ?_
      refine mj_virtual (d' := (0, 0)) (mc := 0) (ms := 0) (As := [_]) d_Mod_take_89 cw_Mod_parametersFit q_595 q_597 qs_Mod_parametersFit (ci := 6) rfl (pP_24 hB.1) rfl rfl (mRoomB rfl) ?_
      refine s_Mod_parametersFit hB (r := []) hc6 ht (fun j hj => by cases hj) hA.1.2 hA.1.1 (by omega) ?_
      refine mj_ifneN d_Mod_take_92 99 rfl (by split <;> omega) (fun c_92 => ?_) (fun c_92 => ?_)
      · have w3 : parOk (cmN (insN t)) (t.getD 2 0) (t.getD 3 0) := Decidable.byContradiction (fun z => by rw [if_neg z] at c_92; omega)
        refine mj_aload_n d_Mod_take_99 rfl ?_
        refine mj_iload_n d_Mod_take_100 rfl ?_
        refine mj_virtual (d' := (0, 0)) (mc := 0) (ms := 0) (As := [_]) d_Mod_take_101 cw_Mod_stageFits q_599 q_601 qs_Mod_stageFits (ci := 6) rfl (pP_24 hB.1) rfl rfl (mRoomB rfl) ?_
        refine s_Mod_stageFits hB (r := []) hc6 hA.2.2.2.2.2.2.2.2.2.1 hA.2.2.2.2.2.2.1 ?_
        refine mj_ifneN d_Mod_take_104 111 rfl (by split <;> omega) (fun c_104 => ?_) (fun c_104 => ?_)
        · have w4 : stgOk (cmN (insN t)) sg cu := Decidable.byContradiction (fun z => by rw [if_neg z] at c_104; omega)
          refine mj_aload_n d_Mod_take_111 rfl ?_
          refine mj_iload_n d_Mod_take_112 rfl ?_
          refine mj_virtual (d' := (0, 0)) (mc := 0) (ms := 0) (As := [_]) d_Mod_take_113 cw_Mod_lengthFits q_604 q_606 qs_Mod_lengthFits (ci := 6) rfl (pP_24 hB.1) rfl rfl (mRoomB rfl) ?_
          refine s_Mod_lengthFits hB (r := []) hc6 w1 hA.1.2 hA.2.2.2.2.2.2.2.2.2.1 ?_
          refine mj_ifneN d_Mod_take_116 123 rfl (by split <;> omega) (fun c_116 => ?_) (fun c_116 => ?_)
          · have w5 : datOk (cmN (insN t)) (datN t) sg := Decidable.byContradiction (fun z => by rw [if_neg z] at c_116; omega)
            have hok := fa7 w1 wc w2 w3 w4 w5
            have h2t := hA.2.2.2.2.2.2.2.2.1
            have dl : (5 < t.length ∧ datN t = t.length - 5) ∨ (¬ 5 < t.length ∧ datN t = 0) := by
              by_cases z : 5 < t.length
              · exact Or.inl ⟨z, by unfold datN; rw [if_pos z]⟩
              · exact Or.inr ⟨z, by unfold datN; rw [if_neg z]⟩
            refine mj_iload_n d_Mod_take_123 rfl ?_
            rcases hc6 with hcm | hcm | hcm | hcm | hcm | hcm
            · rw [hcm] at w3 w4 w5 ⊢
              refine mj_tableIn d_Mod_take_124 (by decide) (by decide) (off := 36) (by decide) 160 rfl ?_
              refine mj_aload_n d_Mod_take_160 rfl ?_
              refine mj_virtual (d' := (2, 43)) (mc := 0) (ms := 0) (As := []) d_Mod_take_161 cw_Mod_select q_608 q_610 qs_Mod_select (ci := 6) rfl (pP_24 hB.1) rfl rfl (mRoomB rfl) ?_
              refine s_Mod_select hB hnm hA.2.2.1.2 hA.2.2.1.1 ht hA.1.1 hA.1.2 (by omega) (fun z => ?_) (fun z f hf => ?_)
              · have e : (sendF t nm cnt rc rk co cu tr an sg am pv) = (27266, [], cu, tr, an, sg, am, pv) := by
                  unfold sendF
                  rw [if_neg (Decidable.not_not.mpr hok), if_pos (by rw [hcm]), if_neg z]
                refine mj_iret d_Mod_take_164 rfl rfl (Nat.le_refl _) (Nat.le_refl _) ?_
                exact kk _ _ e.symm ⟨h0, fkey, fdig, fnm, frc, frl, frb, fta, frd, fbl, fmo, fse, fre, fma, fend, fr, fo, ⟨ht, (fun j hj => by cases hj), hnm, hdg, hF, hta, hrd⟩, hB, hq, rfl⟩
              · have e : (sendF t nm cnt rc rk co cu tr an sg am pv) = (36864, selR nm, cu, tr, an, 1, am, pv) := by
                  unfold sendF
                  rw [if_neg (Decidable.not_not.mpr hok), if_pos (by rw [hcm]), if_pos z]
                refine mj_iret d_Mod_take_164 rfl rfl (Nat.le_refl _) (Nat.le_refl _) ?_
                exact kk _ _ e.symm ⟨h0, fkey, fdig, fnm, frc, frl, frb, fta, frd, fbl, fmo, fse, fre, fma, fend, fr, f, ⟨ht, hf, hnm, hdg, hF, hta, hrd⟩, hB, hq, rfl⟩
            · rw [hcm] at w3 w4 w5 ⊢
              refine mj_tableIn d_Mod_take_124 (by decide) (by decide) (off := 41) (by decide) 165 rfl ?_
              refine mj_aload_n d_Mod_take_165 rfl ?_
              refine mj_virtual (d' := (2, 43)) (mc := 0) (ms := 0) (As := []) d_Mod_take_166 cw_Mod_ready q_621 q_623 qs_Mod_ready (ci := 6) rfl (pP_24 hB.1) rfl rfl (mRoomB rfl) ?_
              refine s_Mod_ready hB hF ht hA.1.1 (by omega) (fun z => ?_) (fun z f hf => ?_)
              · have e : (sendF t nm cnt rc rk co cu tr an sg am pv) = (27264, [], cu, tr, an, sg, am, pv) := by
                  unfold sendF
                  rw [if_neg (Decidable.not_not.mpr hok), if_neg (by rw [hcm]; decide), if_pos (by rw [hcm]), if_neg z]
                refine mj_iret d_Mod_take_169 rfl rfl (Nat.le_refl _) (Nat.le_refl _) ?_
                exact kk _ _ e.symm ⟨h0, fkey, fdig, fnm, frc, frl, frb, fta, frd, fbl, fmo, fse, fre, fma, fend, fr, fo, ⟨ht, (fun j hj => by cases hj), hnm, hdg, hF, hta, hrd⟩, hB, hq, rfl⟩
              · have e : (sendF t nm cnt rc rk co cu tr an sg am pv) = (36864, rdyR cnt, cu + 1, tr, an, 2, amtN t 7 6, 0) := by
                  unfold sendF
                  rw [if_neg (Decidable.not_not.mpr hok), if_neg (by rw [hcm]; decide), if_pos (by rw [hcm]), if_pos z]
                refine mj_iret d_Mod_take_169 rfl rfl (Nat.le_refl _) (Nat.le_refl _) ?_
                exact kk _ _ e.symm ⟨h0, fkey, fdig, fnm, frc, frl, frb, fta, frd, fbl, fmo, fse, fre, fma, fend, fr, f, ⟨ht, hf, hnm, hdg, hF, hta, hrd⟩, hB, hq, rfl⟩
            · rw [hcm] at w3 w4 w5 ⊢
              refine mj_tableIn d_Mod_take_124 (by decide) (by decide) (off := 46) (by decide) 170 rfl ?_
              refine mj_aload_n d_Mod_take_170 rfl ?_
              refine mj_virtual (d' := (2, 43)) (mc := 0) (ms := 0) (As := []) d_Mod_take_171 cw_Mod_readRecord q_630 q_632 qs_Mod_readRecord (ci := 6) rfl (pP_24 hB.1) rfl rfl (mRoomB rfl) ?_
              refine s_Mod_readRecord hB hF ht hA.1.1 (by omega) (fun z => ?_) (fun z z2 => ?_) (fun z z2 f hf => ?_)
              · have e : (sendF t nm cnt rc rk co cu tr an sg am pv) = (27266, [], cu, tr, an, sg, am, pv) := by
                  unfold sendF
                  rw [if_neg (Decidable.not_not.mpr hok), if_neg (by rw [hcm]; decide), if_neg (by rw [hcm]; decide), if_pos (by rw [hcm]), if_pos z]
                refine mj_iret d_Mod_take_174 rfl rfl (Nat.le_refl _) (Nat.le_refl _) ?_
                exact kk _ _ e.symm ⟨h0, fkey, fdig, fnm, frc, frl, frb, fta, frd, fbl, fmo, fse, fre, fma, fend, fr, fo, ⟨ht, (fun j hj => by cases hj), hnm, hdg, hF, hta, hrd⟩, hB, hq, rfl⟩
              · have e : (sendF t nm cnt rc rk co cu tr an sg am pv) = (27267, [], cu, tr, an, sg, am, pv) := by
                  unfold sendF
                  rw [if_neg (Decidable.not_not.mpr hok), if_neg (by rw [hcm]; decide), if_neg (by rw [hcm]; decide), if_pos (by rw [hcm]), if_neg z, if_pos z2]
                refine mj_iret d_Mod_take_174 rfl rfl (Nat.le_refl _) (Nat.le_refl _) ?_
                exact kk _ _ e.symm ⟨h0, fkey, fdig, fnm, frc, frl, frb, fta, frd, fbl, fmo, fse, fre, fma, fend, fr, fo, ⟨ht, (fun j hj => by cases hj), hnm, hdg, hF, hta, hrd⟩, hB, hq, rfl⟩
              · have e : (sendF t nm cnt rc rk co cu tr an sg am pv) = (36864, [112, (rc (3 * (t.getD 3 0 / 8 - 1) + (t.getD 2 0 - 1))).length] ++ rc (3 * (t.getD 3 0 / 8 - 1) + (t.getD 2 0 - 1)), cu, tr, an, sg, am, pv) := by
                  unfold sendF
                  rw [if_neg (Decidable.not_not.mpr hok), if_neg (by rw [hcm]; decide), if_neg (by rw [hcm]; decide), if_pos (by rw [hcm]), if_neg z, if_neg z2]
                refine mj_iret d_Mod_take_174 rfl rfl (Nat.le_refl _) (Nat.le_refl _) ?_
                exact kk _ _ e.symm ⟨h0, fkey, fdig, fnm, frc, frl, frb, fta, frd, fbl, fmo, fse, fre, fma, fend, fr, f, ⟨ht, hf, hnm, hdg, hF, hta, hrd⟩, hB, hq, rfl⟩
            · rw [hcm] at w3 w4 w5 ⊢
              refine mj_tableIn d_Mod_take_124 (by decide) (by decide) (off := 51) (by decide) 175 rfl ?_
              refine mj_aload_n d_Mod_take_175 rfl ?_
              refine mj_virtual (d' := (1, 22)) (mc := 0) (ms := 0) (As := []) d_Mod_take_176 cw_Mod_prove q_634 q_636 qs_Mod_prove (ci := 6) rfl (pP_24 hB.1) rfl rfl (mRoomB rfl) ?_
              refine s_Mod_prove hB (fun z => ?_) hA.2.2.2.2.2.2.2.1 ht hA.1.1 (by omega) hA.2.2.2.2.2.1 hdg (fun z z2 => ?_) (fun z z2 z3 => ?_) (fun z z2 z3 => ?_)
              · have e : (sendF t nm cnt rc rk co cu tr an sg am pv) = (27011, [], cu, tr, an, sg, am, pv) := by
                  unfold sendF
                  rw [if_neg (Decidable.not_not.mpr hok), if_neg (by rw [hcm]; decide), if_neg (by rw [hcm]; decide), if_neg (by rw [hcm]; decide), if_pos (by rw [hcm]), if_pos z]
                refine mj_iret d_Mod_take_179 rfl rfl (Nat.le_refl _) (Nat.le_refl _) ?_
                exact kk _ _ e.symm ⟨h0, fkey, fdig, fnm, frc, frl, frb, fta, frd, fbl, fmo, fse, fre, fma, fend, fr, fo, ⟨ht, (fun j hj => by cases hj), hnm, hdg, hF, hta, hrd⟩, hB, hq, rfl⟩
              · have e : (sendF t nm cnt rc rk co cu tr an sg am pv) = (27264, [], cu, tr, an, sg, am, pv) := by
                  unfold sendF
                  rw [if_neg (Decidable.not_not.mpr hok), if_neg (by rw [hcm]; decide), if_neg (by rw [hcm]; decide), if_neg (by rw [hcm]; decide), if_pos (by rw [hcm]), if_neg z, if_pos z2]
                refine mj_iret d_Mod_take_179 rfl rfl (Nat.le_refl _) (Nat.le_refl _) ?_
                exact kk _ _ e.symm ⟨h0, fkey, fdig, fnm, frc, frl, frb, fta, frd, fbl, fmo, fse, fre, fma, fend, fr, fo, ⟨ht, (fun j hj => by cases hj), hnm, hdg, hF, hta, hrd⟩, hB, hq, rfl⟩
              · have e : (sendF t nm cnt rc rk co cu tr an sg am pv) = (36864, [], cu, 3, an, sg, am, 1) := by
                  unfold sendF
                  rw [if_neg (Decidable.not_not.mpr hok), if_neg (by rw [hcm]; decide), if_neg (by rw [hcm]; decide), if_neg (by rw [hcm]; decide), if_pos (by rw [hcm]), if_neg z, if_neg (Decidable.not_not.mpr z2), if_pos z3]
                refine mj_iret d_Mod_take_179 rfl rfl (Nat.le_refl _) (Nat.le_refl _) ?_
                exact kk _ _ e.symm ⟨h0, fkey, fdig, fnm, frc, frl, frb, fta, frd, fbl, fmo, fse, fre, fma, fend, fr, fo, ⟨ht, (fun j hj => by cases hj), hnm, hdg, hF, hta, hrd⟩, hB, hq, rfl⟩
              · have e : (sendF t nm cnt rc rk co cu tr an sg am pv) = (25536 + (tr - 1), [], cu, tr - 1, an, sg, am, 0) := by
                  unfold sendF
                  rw [if_neg (Decidable.not_not.mpr hok), if_neg (by rw [hcm]; decide), if_neg (by rw [hcm]; decide), if_neg (by rw [hcm]; decide), if_pos (by rw [hcm]), if_neg z, if_neg (Decidable.not_not.mpr z2), if_neg z3]
                refine mj_iret d_Mod_take_179 rfl rfl (Nat.le_refl _) (Nat.le_refl _) ?_
                exact kk _ _ e.symm ⟨h0, fkey, fdig, fnm, frc, frl, frb, fta, frd, fbl, fmo, fse, fre, fma, fend, fr, fo, ⟨ht, (fun j hj => by cases hj), hnm, hdg, hF, hta, hrd⟩, hB, hq, rfl⟩
            · rw [hcm] at w3 w4 w5 ⊢
              refine mj_tableIn d_Mod_take_124 (by decide) (by decide) (off := 56) (by decide) 180 rfl ?_
              refine mj_aload_n d_Mod_take_180 rfl ?_
              refine mj_virtual (d' := (2, 43)) (mc := 0) (ms := 0) (As := []) d_Mod_take_181 cw_Mod_tell q_642 q_644 qs_Mod_tell (ci := 6) rfl (pP_24 hB.1) rfl rfl (mRoomB rfl) ?_
              refine s_Mod_tell hB ht hA.1.1 (by omega) hA.2.2.2.2.2.2.1 (by omega) (fun f hf => ?_)
              · have e : (sendF t nm cnt rc rk co cu tr an sg am pv) = (36864, if t.getD 3 0 = 54 then [159, 54, 2, cu / 256, cu % 256] else [159, 23, 1, tr], cu, tr, an, sg, am, pv) := by
                  unfold sendF
                  rw [if_neg (Decidable.not_not.mpr hok), if_neg (by rw [hcm]; decide), if_neg (by rw [hcm]; decide), if_neg (by rw [hcm]; decide), if_neg (by rw [hcm]; decide), if_pos (by rw [hcm])]
                refine mj_iret d_Mod_take_184 rfl rfl (Nat.le_refl _) (Nat.le_refl _) ?_
                exact kk _ _ e.symm ⟨h0, fkey, fdig, fnm, frc, frl, frb, fta, frd, fbl, fmo, fse, fre, fma, fend, fr, f, ⟨ht, hf, hnm, hdg, hF, hta, hrd⟩, hB, hq, rfl⟩
            · rw [hcm] at w3 w4 w5 ⊢
              refine mj_tableOut d_Mod_take_124 (by decide) 185 rfl ?_
              refine mj_aload_n d_Mod_take_185 rfl ?_
              refine mj_virtual (d' := (4, 102)) (mc := 0) (ms := 0) (As := []) d_Mod_take_186 cw_Mod_give q_646 q_648 qs_Mod_give (ci := 6) rfl (pP_24 hB.1) rfl rfl (mRoomB rfl) ?_
              refine s_Mod_give hB hta hrd hA.2.2.2.2.1 ht hA.1.1 hA.1.2 (by omega) hA.2.2.2.2.2.2.2.2.2.2.1 (by omega) (by omega) hA.2.2.2.2.2.2.2.2.2.2.2 hA.2.2.2.2.2.2.1 (fun h1 a m t2 b c f hB1 hq1 hf => ?_)
              · have e : (sendF t nm cnt rc rk co cu tr an sg am pv) = (36864, givR rk t cu (givN t am sg an pv) pv, cu, tr, (if givN t am sg an pv = 64 then (if sg = 3 then 0 else an + 1) else an), (if givN t am sg an pv = 128 then 3 else 4), am, pv) := by
                  unfold sendF
                  rw [if_neg (Decidable.not_not.mpr hok), if_neg (by rw [hcm]; decide), if_neg (by rw [hcm]; decide), if_neg (by rw [hcm]; decide), if_neg (by rw [hcm]; decide), if_neg (by rw [hcm]; decide)]
                refine mj_iret d_Mod_take_189 rfl rfl (Nat.le_refl _) (Nat.le_refl _) ?_
                exact kk _ _ e.symm ⟨h1, fkey, fdig, fnm, frc, frl, frb, fta, frd, b, t2, a, c, m, fend, fr, f, ⟨ht, hf, hnm, hdg, hF, hta, hrd⟩, hB1, (hq1.trans hq), rfl⟩
          · refine mj_sipush d_Mod_take_119 (nI 26368) (by decide) ?_
            refine mj_iret d_Mod_take_122 rfl rfl (Nat.le_refl _) (Nat.le_refl _) ?_
            have e : (sendF t nm cnt rc rk co cu tr an sg am pv) = (26368, [], cu, tr, an, sg, am, pv) := by
              have f0 : faultN t sg cu = 26368 := fa6 w1 wc w2 w3 w4 (fun z => by rw [if_pos z] at c_116; omega)
              unfold sendF
              rw [if_pos (by rw [f0]; decide), f0]
            exact kk _ _ e.symm ⟨h0, fkey, fdig, fnm, frc, frl, frb, fta, frd, fbl, fmo, fse, fre, fma, fend, fr, fo, ⟨ht, (fun j hj => by cases hj), hnm, hdg, hF, hta, hrd⟩, hB, hq, rfl⟩
        · refine mj_sipush d_Mod_take_107 (nI 27013) (by decide) ?_
          refine mj_iret d_Mod_take_110 rfl rfl (Nat.le_refl _) (Nat.le_refl _) ?_
          have e : (sendF t nm cnt rc rk co cu tr an sg am pv) = (27013, [], cu, tr, an, sg, am, pv) := by
            have f0 : faultN t sg cu = 27013 := fa5 w1 wc w2 w3 (fun z => by rw [if_pos z] at c_104; omega)
            unfold sendF
            rw [if_pos (by rw [f0]; decide), f0]
          exact kk _ _ e.symm ⟨h0, fkey, fdig, fnm, frc, frl, frb, fta, frd, fbl, fmo, fse, fre, fma, fend, fr, fo, ⟨ht, (fun j hj => by cases hj), hnm, hdg, hF, hta, hrd⟩, hB, hq, rfl⟩
      · refine mj_sipush d_Mod_take_95 (nI 27270) (by decide) ?_
        refine mj_iret d_Mod_take_98 rfl rfl (Nat.le_refl _) (Nat.le_refl _) ?_
        have e : (sendF t nm cnt rc rk co cu tr an sg am pv) = (27270, [], cu, tr, an, sg, am, pv) := by
          have f0 : faultN t sg cu = 27270 := fa4 w1 wc w2 (fun z => by rw [if_pos z] at c_92; omega)
          unfold sendF
          rw [if_pos (by rw [f0]; decide), f0]
        exact kk _ _ e.symm ⟨h0, fkey, fdig, fnm, frc, frl, frb, fta, frd, fbl, fmo, fse, fre, fma, fend, fr, fo, ⟨ht, (fun j hj => by cases hj), hnm, hdg, hF, hta, hrd⟩, hB, hq, rfl⟩
    · refine mj_sipush d_Mod_take_83 (nI 27904) (by decide) ?_
      refine mj_iret d_Mod_take_86 rfl rfl (Nat.le_refl _) (Nat.le_refl _) ?_
      have e : (sendF t nm cnt rc rk co cu tr an sg am pv) = (27904, [], cu, tr, an, sg, am, pv) := by
        have f0 : faultN t sg cu = 27904 := fa3 w1 wc c_80
        unfold sendF
        rw [if_pos (by rw [f0]; decide), f0]
      exact kk _ _ e.symm ⟨h0, fkey, fdig, fnm, frc, frl, frb, fta, frd, fbl, fmo, fse, fre, fma, fend, fr, fo, ⟨ht, (fun j hj => by cases hj), hnm, hdg, hF, hta, hrd⟩, hB, hq, rfl⟩
  have rest : wfR t → mGo M_Mod_take L xs (5, 125) 0 0 Post 0 0 49 [some (.ref 24), none] [] (pP h0 (cMod cu tr an sg am pv (t).length (([] : List Nat)).length) fr fo) := by
    intro w1
    refine mj_aload_n d_Mod_take_49 rfl ?_
    refine mj_get d_Mod_take_50 fd_Mod_32 (pP_24 hB.1) rfl ?_
    refine mj_iconst d_Mod_take_53 (nI 0) (by decide) ?_
    refine mj_ialdN d_Mod_take_54 (pP_31 hB.2.1) (by omega) ?_
    rw [ht _ (by omega)]
    refine mj_ifeqN d_Mod_take_55 74 rfl (by omega) (fun c_55 => ?_) (fun c_55 => ?_)
    · exact rest2 w1 (by omega)
    · refine mj_aload_n d_Mod_take_58 rfl ?_
      refine mj_get d_Mod_take_59 fd_Mod_32 (pP_24 hB.1) rfl ?_
      refine mj_iconst d_Mod_take_62 (nI 0) (by decide) ?_
      refine mj_ialdN d_Mod_take_63 (pP_31 hB.2.1) (by omega) ?_
      rw [ht _ (by omega)]
      refine mj_sipush d_Mod_take_64 (nI 128) (by decide) ?_
      refine mj_icmpeqN d_Mod_take_67 74 rfl (by omega) (fun c_67 => ?_) (fun c_67 => ?_)
      · exact rest2 w1 (by omega)
      · refine mj_sipush d_Mod_take_70 (nI 28160) (by decide) ?_
        refine mj_iret d_Mod_take_73 rfl rfl (Nat.le_refl _) (Nat.le_refl _) ?_
        have e : (sendF t nm cnt rc rk co cu tr an sg am pv) = (28160, [], cu, tr, an, sg, am, pv) := by
          have f0 : faultN t sg cu = 28160 := fa2 w1 (by omega)
          unfold sendF
          rw [if_pos (by rw [f0]; decide), f0]
        exact kk _ _ e.symm ⟨h0, fkey, fdig, fnm, frc, frl, frb, fta, frd, fbl, fmo, fse, fre, fma, fend, fr, fo, ⟨ht, (fun j hj => by cases hj), hnm, hdg, hF, hta, hrd⟩, hB, hq, rfl⟩
  refine mj_aload_n d_Mod_take_0 rfl ?_
  refine mj_iconst d_Mod_take_1 (nI 0) (by decide) ?_
  refine mj_put d_Mod_take_2 fd_Mod_100 ft_Mod_14 (pP_24 hB.1) (Nat.le_of_ble_eq_true rfl) rfl rfl ?_
  rw [pP_s24]
  dsimp only [List.set]
  refine mj_aload_n d_Mod_take_5 rfl ?_
  refine mj_get d_Mod_take_6 fd_Mod_97 (pP_24 hB.1) rfl ?_
  refine mj_iconst d_Mod_take_9 (nI 4) (by decide) ?_
  refine mj_icmpltN d_Mod_take_10 45 rfl (by omega) (fun c_10 => ?_) (fun c_10 => ?_)
  · refine mj_sipush d_Mod_take_45 (nI 26368) (by decide) ?_
    refine mj_iret d_Mod_take_48 rfl rfl (Nat.le_refl _) (Nat.le_refl _) ?_
    have e : (sendF t nm cnt rc rk co cu tr an sg am pv) = (26368, [], cu, tr, an, sg, am, pv) := by
      have f0 : faultN t sg cu = 26368 := fa1 (by omega)
      unfold sendF
      rw [if_pos (by rw [f0]; decide), f0]
    exact kk _ _ e.symm ⟨h0, fkey, fdig, fnm, frc, frl, frb, fta, frd, fbl, fmo, fse, fre, fma, fend, fr, fo, ⟨ht, (fun j hj => by cases hj), hnm, hdg, hF, hta, hrd⟩, hB, hq, rfl⟩
  · refine mj_aload_n d_Mod_take_13 rfl ?_
    refine mj_get d_Mod_take_14 fd_Mod_97 (pP_24 hB.1) rfl ?_
    refine mj_iconst d_Mod_take_17 (nI 4) (by decide) ?_
    refine mj_icmpleN d_Mod_take_18 49 rfl (by omega) (fun c_18 => ?_) (fun c_18 => ?_)
    · exact rest (by omega)
    · refine mj_aload_n d_Mod_take_21 rfl ?_
      refine mj_get d_Mod_take_22 fd_Mod_97 (pP_24 hB.1) rfl ?_
      refine mj_bipush d_Mod_take_25 (nI 6) (by decide) ?_
      refine mj_icmpltN d_Mod_take_27 45 rfl (by omega) (fun c_27 => ?_) (fun c_27 => ?_)
      · refine mj_sipush d_Mod_take_45 (nI 26368) (by decide) ?_
        refine mj_iret d_Mod_take_48 rfl rfl (Nat.le_refl _) (Nat.le_refl _) ?_
        have e : (sendF t nm cnt rc rk co cu tr an sg am pv) = (26368, [], cu, tr, an, sg, am, pv) := by
          have f0 : faultN t sg cu = 26368 := fa1 (by omega)
          unfold sendF
          rw [if_pos (by rw [f0]; decide), f0]
        exact kk _ _ e.symm ⟨h0, fkey, fdig, fnm, frc, frl, frb, fta, frd, fbl, fmo, fse, fre, fma, fend, fr, fo, ⟨ht, (fun j hj => by cases hj), hnm, hdg, hF, hta, hrd⟩, hB, hq, rfl⟩
      · refine mj_aload_n d_Mod_take_30 rfl ?_
        refine mj_get d_Mod_take_31 fd_Mod_32 (pP_24 hB.1) rfl ?_
        refine mj_iconst d_Mod_take_34 (nI 4) (by decide) ?_
        refine mj_ialdN d_Mod_take_35 (pP_31 hB.2.1) (by omega) ?_
        rw [ht _ (by omega)]
        refine mj_aload_n d_Mod_take_36 rfl ?_
        refine mj_get d_Mod_take_37 fd_Mod_97 (pP_24 hB.1) rfl ?_
        refine mj_iconst d_Mod_take_40 (nI 5) (by decide) ?_
        refine mj_isub d_Mod_take_41 ?_
        rw [pk_sub (by omega)]
        refine mj_icmpeqN d_Mod_take_42 49 rfl (by omega) (fun c_42 => ?_) (fun c_42 => ?_)
        · exact rest (by omega)
        · refine mj_sipush d_Mod_take_45 (nI 26368) (by decide) ?_
          refine mj_iret d_Mod_take_48 rfl rfl (Nat.le_refl _) (Nat.le_refl _) ?_
          have e : (sendF t nm cnt rc rk co cu tr an sg am pv) = (26368, [], cu, tr, an, sg, am, pv) := by
            have f0 : faultN t sg cu = 26368 := fa1 (by omega)
            unfold sendF
            rw [if_pos (by rw [f0]; decide), f0]
          exact kk _ _ e.symm ⟨h0, fkey, fdig, fnm, frc, frl, frb, fta, frd, fbl, fmo, fse, fre, fma, fend, fr, fo, ⟨ht, (fun j hj => by cases hj), hnm, hdg, hF, hta, hrd⟩, hB, hq, rfl⟩
theorem s_Mod_send {L : Nat} {xs : Nat → Int32} {Post : Option Value → mHeap → Prop} {fen : Nat → Int32} {t r nm : List Nat} {cnt : Nat → Nat} {rc : Nat → List Nat} {rk : Nat → Nat} {co cu tr an sg am pv : Nat} {pre h : mHeap} (hA : AI t r nm cnt rc rk co cu tr an sg am pv) (hW : MW fen t r nm cnt rc rk co cu tr an sg am pv pre h) (kk : ∀ (S : R8) (h' : mHeap), S = (sendF t nm cnt rc rk co cu tr an sg am pv) → MW fen [] S.2.1 nm cnt rc rk co S.2.2.1 S.2.2.2.1 S.2.2.2.2.1 S.2.2.2.2.2.1 S.2.2.2.2.2.2.1 S.2.2.2.2.2.2.2 pre h' → AI [] S.2.1 nm cnt rc rk co S.2.2.1 S.2.2.2.1 S.2.2.2.2.1 S.2.2.2.2.2.1 S.2.2.2.2.2.2.1 S.2.2.2.2.2.2.2 → S.1 < 65536 → Post (some (.int (nI S.1))) h') : mMet M_Mod_send L xs (6, 146) 0 0 [.ref 24] h Post := by
  have hi := send_inv hA
  refine mMet_of rfl (Nat.le_of_ble_eq_true rfl) ?_
  refine mj_aload_n d_Mod_send_0 rfl ?_
  refine mj_virtual (d' := (5, 125)) (mc := 0) (ms := 0) (As := []) d_Mod_send_1 cw_Mod_take q_584 q_586 qs_Mod_take (ci := 6) rfl (MW_24 hW) rfl rfl (mRoomB rfl) ?_
  refine s_Mod_take hA hW (fun S h2 hS hW2 => ?_)
  rw [← hS] at hi
  obtain ⟨h0, fkey, fdig, fnm, frc, frl, frb, fta, frd, fbl, fmo, fse, fre, fma, fend, fr, fo, ⟨ht, hr, hnm, hdg, hF, hta, hrd⟩, hB, hq, rfl⟩ := hW2
  refine mj_istore_n d_Mod_send_4 (by decide) ?_
  dsimp only [mSt1, mSt2, mKill, Nat.reduceAdd]
  refine mj_aload_n d_Mod_send_5 rfl ?_
  refine mj_iconst d_Mod_send_6 (nI 0) (by decide) ?_
  refine mj_put d_Mod_send_7 fd_Mod_97 ft_Mod_12 (pP_24 hB.1) (Nat.le_of_ble_eq_true rfl) rfl rfl ?_
  rw [pP_s24]
  dsimp only [List.set]
  refine mj_iload_n d_Mod_send_10 rfl ?_
  refine mj_iret d_Mod_send_11 rfl rfl (Nat.le_refl _) (Nat.le_refl _) ?_
  exact kk S _ hS ⟨h0, fkey, fdig, fnm, frc, frl, frb, fta, frd, fbl, fmo, fse, fre, fma, fend, fr, fo, ⟨(fun j hj => by cases hj), hr, hnm, hdg, hF, hta, hrd⟩, hB, hq, rfl⟩ hi.1 hi.2
