theorem nI_nn {k : Nat} (hk : k < 2 ^ 31) : ¬ nI k < 0 := fun z => by
  have := (nI_ltI (b := 0) hk (by decide)).mp z
  omega
theorem l_readM {L : Nat} {xs : Nat → Int32} {Post : Option Value → mHeap → Prop} {h : mHeap} {fkey fdig fnm frc frl frb fen fta frd fbl fmo fse fre fma fend : Nat → Int32} {cu tr an sg am pv : Nat} {t : List Nat} {fr : Nat → Int32} (hB : MB h fkey fdig fnm frc frl frb fen fta frd fbl fmo fse fre fma fend) {cnt : Nat → Nat} {rc : Nat → List Nat} (hF : FR cnt rc frb frl frc) {f j : Nat} (hf4 : f < 4) (hj : j < cnt f) (kk : ∀ g, Rf ([112, (rc (3 * f + j)).length] ++ (rc (3 * f + j))) g → Post (some (.int (nI 36864))) (pP h (cMod cu tr an sg am pv (t).length ([112, (rc (3 * f + j)).length] ++ (rc (3 * f + j))).length) fr g)) : ∀ (m i : Nat) (gg : Nat → Int32), i + m = (rc (3 * f + j)).length → Rf ([112, (rc (3 * f + j)).length] ++ (rc (3 * f + j)).take i) gg → mGo M_Mod_readRecord L xs (2, 43) 0 0 Post 0 0 82 [some (.ref 24), some (.int (nI f)), some (.int (nI j)), some (.int (nI (3 * f + j))), some (.int (nI i))] [] (pP h (cMod cu tr an sg am pv (t).length ([112, (rc (3 * f + j)).length] ++ (rc (3 * f + j)).take i).length) fr gg) := by
  have hc3 := hF.2.1 f hf4
  obtain ⟨b1, b2, b3, b4, b5⟩ := hF.2.2 f j hf4 hj
  intro m
  induction m with
  | zero =>
    intro i gg hi hg
    refine mj_iload d_Mod_readRecord_82 rfl ?_
    refine mj_aload_n d_Mod_readRecord_84 rfl ?_
    refine mj_get d_Mod_readRecord_85 fd_Mod_22 (pP_24 hB.1) rfl ?_
    refine mj_iload_n d_Mod_readRecord_88 rfl ?_
    refine mj_ialdN d_Mod_readRecord_89 (pP_get hB.2.2.2.2.2.2.2.1 (by decide) (by decide) (by decide)) (by omega) ?_
    rw [b4]
    refine mj_icmpgeN d_Mod_readRecord_90 115 rfl (by omega) (fun c_90 => ?_) (fun c_90 => ?_)
    · refine mj_ldc d_Mod_readRecord_115 (nI 36864) q_620 ?_
      refine mj_iret d_Mod_readRecord_117 rfl rfl (Nat.le_refl _) (Nat.le_refl _) ?_
      rw [List.take_of_length_le (by omega)] at hg ⊢
      exact kk gg hg
    · omega
  | succ m ih =>
    intro i gg hi hg
    refine mj_iload d_Mod_readRecord_82 rfl ?_
    refine mj_aload_n d_Mod_readRecord_84 rfl ?_
    refine mj_get d_Mod_readRecord_85 fd_Mod_22 (pP_24 hB.1) rfl ?_
    refine mj_iload_n d_Mod_readRecord_88 rfl ?_
    refine mj_ialdN d_Mod_readRecord_89 (pP_get hB.2.2.2.2.2.2.2.1 (by decide) (by decide) (by decide)) (by omega) ?_
    rw [b4]
    refine mj_icmpgeN d_Mod_readRecord_90 115 rfl (by omega) (fun c_90 => ?_) (fun c_90 => ?_)
    · omega
    · refine mj_aload_n d_Mod_readRecord_93 rfl ?_
      refine mj_aload_n d_Mod_readRecord_94 rfl ?_
      refine mj_get d_Mod_readRecord_95 fd_Mod_25 (pP_24 hB.1) rfl ?_
      refine mj_bipush d_Mod_readRecord_98 (nI 30) (by decide) ?_
      refine mj_iload_n d_Mod_readRecord_100 rfl ?_
      refine mj_imul d_Mod_readRecord_101 ?_
      rw [pk_mul]
      refine mj_iload d_Mod_readRecord_102 rfl ?_
      refine mj_iadd d_Mod_readRecord_104 ?_
      rw [nI_add]
      refine mj_ialdN d_Mod_readRecord_105 (pP_get hB.2.2.2.2.2.2.2.2.1 (by decide) (by decide) (by decide)) (by omega) ?_
      rw [b5 _ (by omega)]
      refine mj_virtual (d' := (0, 0)) (mc := 0) (ms := 0) (As := [_]) d_Mod_readRecord_106 cw_Mod_say q_616 q_618 qs_Mod_say (ci := 6) rfl (pP_24 hB.1) rfl rfl (mRoomB rfl) ?_
      refine s_Mod_say hB hg (by simp; omega) (fun f1 g1 => ?_)
      rw [List.append_assoc, take_s (by omega)] at g1 ⊢
      refine mj_iinc d_Mod_readRecord_109 rfl (by decide) (nI (i + 1)) (nI_1 i) ?_
      dsimp only [mSt1, mSt2, mKill, Nat.reduceAdd]
      refine mj_goto d_Mod_readRecord_112 82 rfl ?_
      exact ih (i + 1) f1 (by omega) g1
theorem s_Mod_readRecord {L : Nat} {xs : Nat → Int32} {Post : Option Value → mHeap → Prop} {h : mHeap} {fkey fdig fnm frc frl frb fen fta frd fbl fmo fse fre fma fend : Nat → Int32} {cu tr an sg am pv : Nat} {t : List Nat} {fr fo : Nat → Int32} (hB : MB h fkey fdig fnm frc frl frb fen fta frd fbl fmo fse fre fma fend) {cnt : Nat → Nat} {rc : Nat → List Nat} (hF : FR cnt rc frb frl frc) (ht : Rf t fr) (hbt : Bb t) (h4 : t.length = 4) (k1 : (t.getD 3 0 / 8 = 0 ∨ 4 < t.getD 3 0 / 8 ∨ cnt (t.getD 3 0 / 8 - 1) = 0) → Post (some (.int (nI 27266))) (pP h (cMod cu tr an sg am pv (t).length (([] : List Nat)).length) fr fo)) (k2 : ¬ (t.getD 3 0 / 8 = 0 ∨ 4 < t.getD 3 0 / 8 ∨ cnt (t.getD 3 0 / 8 - 1) = 0) → (t.getD 2 0 = 0 ∨ cnt (t.getD 3 0 / 8 - 1) < t.getD 2 0) → Post (some (.int (nI 27267))) (pP h (cMod cu tr an sg am pv (t).length (([] : List Nat)).length) fr fo)) (k3 : ¬ (t.getD 3 0 / 8 = 0 ∨ 4 < t.getD 3 0 / 8 ∨ cnt (t.getD 3 0 / 8 - 1) = 0) → ¬ (t.getD 2 0 = 0 ∨ cnt (t.getD 3 0 / 8 - 1) < t.getD 2 0) → ∀ f, Rf ([112, (rc (3 * (t.getD 3 0 / 8 - 1) + (t.getD 2 0 - 1))).length] ++ (rc (3 * (t.getD 3 0 / 8 - 1) + (t.getD 2 0 - 1)))) f → Post (some (.int (nI 36864))) (pP h (cMod cu tr an sg am pv (t).length ([112, (rc (3 * (t.getD 3 0 / 8 - 1) + (t.getD 2 0 - 1))).length] ++ (rc (3 * (t.getD 3 0 / 8 - 1) + (t.getD 2 0 - 1)))).length) fr f)) : mMet M_Mod_readRecord L xs (2, 43) 0 0 [.ref 24] (pP h (cMod cu tr an sg am pv (t).length (([] : List Nat)).length) fr fo) Post := by
  refine mMet_of rfl (Nat.le_of_ble_eq_true rfl) ?_
  have b3 := getD_lt hbt 3
  have b2 := getD_lt hbt 2
  refine mj_aload_n d_Mod_readRecord_0 rfl ?_
  refine mj_get d_Mod_readRecord_1 fd_Mod_32 (pP_24 hB.1) rfl ?_
  refine mj_iconst d_Mod_readRecord_4 (nI 3) (by decide) ?_
  refine mj_ialdN d_Mod_readRecord_5 (pP_31 hB.2.1) (by omega) ?_
  rw [ht _ (by omega)]
  refine mj_bipush d_Mod_readRecord_6 (nI 8) (by decide) ?_
  refine mj_idiv d_Mod_readRecord_8 (by decide) ?_
  rw [pk_div (by omega) (by decide) (by decide)]
  refine mj_iconst d_Mod_readRecord_9 (nI 1) (by decide) ?_
  by_cases hz : t.getD 3 0 / 8 = 0
  · rw [hz]
    refine mj_isub d_Mod_readRecord_10 ?_
    rw [show nI 0 - nI 1 = -1 by decide]
    refine mj_istore_n d_Mod_readRecord_11 (by decide) ?_
    dsimp only [mSt1, mSt2, mKill, Nat.reduceAdd]
    refine mj_iload_n d_Mod_readRecord_12 rfl ?_
    refine mj_iflt d_Mod_readRecord_13 30 rfl (fun c_13 => ?_) (fun c_13 => ?_)
    · refine mj_sipush d_Mod_readRecord_30 (nI 27266) (by decide) ?_
      refine mj_iret d_Mod_readRecord_33 rfl rfl (Nat.le_refl _) (Nat.le_refl _) ?_
      exact k1 (Or.inl hz)
    · exact absurd (show (-1 : Int32) < 0 by decide) c_13
  · obtain ⟨f, hf⟩ : ∃ f, t.getD 3 0 / 8 = f + 1 := ⟨t.getD 3 0 / 8 - 1, by omega⟩
    rw [hf]
    rw [hf, Nat.add_sub_cancel] at k1 k2 k3
    refine mj_isub d_Mod_readRecord_10 ?_
    rw [pk_sub (by omega), Nat.add_sub_cancel]
    refine mj_istore_n d_Mod_readRecord_11 (by decide) ?_
    dsimp only [mSt1, mSt2, mKill, Nat.reduceAdd]
    refine mj_iload_n d_Mod_readRecord_12 rfl ?_
    refine mj_iflt d_Mod_readRecord_13 30 rfl (fun c_13 => ?_) (fun c_13 => ?_)
    · exact absurd c_13 (nI_nn (by omega))
    · refine mj_iload_n d_Mod_readRecord_16 rfl ?_
      refine mj_iconst d_Mod_readRecord_17 (nI 3) (by decide) ?_
      refine mj_icmpgtN d_Mod_readRecord_18 30 rfl (by omega) (fun c_18 => ?_) (fun c_18 => ?_)
      · refine mj_sipush d_Mod_readRecord_30 (nI 27266) (by decide) ?_
        refine mj_iret d_Mod_readRecord_33 rfl rfl (Nat.le_refl _) (Nat.le_refl _) ?_
        exact k1 (by omega)
      · refine mj_aload_n d_Mod_readRecord_21 rfl ?_
        refine mj_get d_Mod_readRecord_22 fd_Mod_19 (pP_24 hB.1) rfl ?_
        refine mj_iload_n d_Mod_readRecord_25 rfl ?_
        refine mj_ialdN d_Mod_readRecord_26 (pP_get hB.2.2.2.2.2.2.1 (by decide) (by decide) (by decide)) (by omega) ?_
        have hf4 : f < 4 := by omega
        have hc3 := hF.2.1 f hf4
        rw [hF.1 _ (by omega)]
        refine mj_ifneN d_Mod_readRecord_27 34 rfl (by omega) (fun c_27 => ?_) (fun c_27 => ?_)
        · refine mj_aload_n d_Mod_readRecord_34 rfl ?_
          refine mj_get d_Mod_readRecord_35 fd_Mod_32 (pP_24 hB.1) rfl ?_
          refine mj_iconst d_Mod_readRecord_38 (nI 2) (by decide) ?_
          refine mj_ialdN d_Mod_readRecord_39 (pP_31 hB.2.1) (by omega) ?_
          rw [ht _ (by omega)]
          refine mj_iconst d_Mod_readRecord_40 (nI 1) (by decide) ?_
          by_cases hy : t.getD 2 0 = 0
          · rw [hy]
            refine mj_isub d_Mod_readRecord_41 ?_
            rw [show nI 0 - nI 1 = -1 by decide]
            refine mj_istore_n d_Mod_readRecord_42 (by decide) ?_
            dsimp only [mSt1, mSt2, mKill, Nat.reduceAdd]
            refine mj_iload_n d_Mod_readRecord_43 rfl ?_
            refine mj_iflt d_Mod_readRecord_44 57 rfl (fun c_44 => ?_) (fun c_44 => ?_)
            · refine mj_sipush d_Mod_readRecord_57 (nI 27267) (by decide) ?_
              refine mj_iret d_Mod_readRecord_60 rfl rfl (Nat.le_refl _) (Nat.le_refl _) ?_
              exact k2 (by omega) (Or.inl hy)
            · exact absurd (show (-1 : Int32) < 0 by decide) c_44
          · obtain ⟨j, hj⟩ : ∃ j, t.getD 2 0 = j + 1 := ⟨t.getD 2 0 - 1, by omega⟩
            rw [hj]
            rw [hj, Nat.add_sub_cancel] at k3
            refine mj_isub d_Mod_readRecord_41 ?_
            rw [pk_sub (by omega), Nat.add_sub_cancel]
            refine mj_istore_n d_Mod_readRecord_42 (by decide) ?_
            dsimp only [mSt1, mSt2, mKill, Nat.reduceAdd]
            refine mj_iload_n d_Mod_readRecord_43 rfl ?_
            refine mj_iflt d_Mod_readRecord_44 57 rfl (fun c_44 => ?_) (fun c_44 => ?_)
            · exact absurd c_44 (nI_nn (by omega))
            · refine mj_iload_n d_Mod_readRecord_47 rfl ?_
              refine mj_aload_n d_Mod_readRecord_48 rfl ?_
              refine mj_get d_Mod_readRecord_49 fd_Mod_19 (pP_24 hB.1) rfl ?_
              refine mj_iload_n d_Mod_readRecord_52 rfl ?_
              refine mj_ialdN d_Mod_readRecord_53 (pP_get hB.2.2.2.2.2.2.1 (by decide) (by decide) (by decide)) (by omega) ?_
              rw [hF.1 _ (by omega)]
              refine mj_icmpltN d_Mod_readRecord_54 61 rfl (by omega) (fun c_54 => ?_) (fun c_54 => ?_)
              · refine mj_iconst d_Mod_readRecord_61 (nI 3) (by decide) ?_
                refine mj_iload_n d_Mod_readRecord_62 rfl ?_
                refine mj_imul d_Mod_readRecord_63 ?_
                rw [pk_mul]
                refine mj_iload_n d_Mod_readRecord_64 rfl ?_
                refine mj_iadd d_Mod_readRecord_65 ?_
                rw [nI_add]
                refine mj_istore_n d_Mod_readRecord_66 (by decide) ?_
                dsimp only [mSt1, mSt2, mKill, Nat.reduceAdd]
                obtain ⟨b1, b2, b3, b4, b5⟩ := hF.2.2 f j hf4 (by omega)
                refine mj_aload_n d_Mod_readRecord_67 rfl ?_
                refine mj_bipush d_Mod_readRecord_68 (nI 112) (by decide) ?_
                refine mj_aload_n d_Mod_readRecord_70 rfl ?_
                refine mj_get d_Mod_readRecord_71 fd_Mod_22 (pP_24 hB.1) rfl ?_
                refine mj_iload_n d_Mod_readRecord_74 rfl ?_
                refine mj_ialdN d_Mod_readRecord_75 (pP_get hB.2.2.2.2.2.2.2.1 (by decide) (by decide) (by decide)) (by omega) ?_
                rw [b4]
                refine mj_virtual (d' := (1, 21)) (mc := 0) (ms := 0) (As := [_, _]) d_Mod_readRecord_76 cw_Mod_say2 q_612 q_614 qs_Mod_say2 (ci := 6) rfl (pP_24 hB.1) rfl rfl (mRoomB rfl) ?_
                refine s_Mod_say2 hB (r := []) (fun j hj => by cases hj) (by decide) (fun f1 g1 => ?_)
                refine mj_iconst d_Mod_readRecord_79 (nI 0) (by decide) ?_
                refine mj_istore d_Mod_readRecord_80 (by decide) ?_
                dsimp only [mSt1, mSt2, mKill, Nat.reduceAdd]
                rw [List.nil_append] at g1 ⊢
                exact l_readM hB hF hf4 (by omega) (fun g hg => k3 (by omega) (by omega) g hg) _ 0 f1 (Nat.zero_add _) (by simpa using g1)
              · refine mj_sipush d_Mod_readRecord_57 (nI 27267) (by decide) ?_
                refine mj_iret d_Mod_readRecord_60 rfl rfl (Nat.le_refl _) (Nat.le_refl _) ?_
                exact k2 (by omega) (by omega)
        · refine mj_sipush d_Mod_readRecord_30 (nI 27266) (by decide) ?_
          refine mj_iret d_Mod_readRecord_33 rfl rfl (Nat.le_refl _) (Nat.le_refl _) ?_
          exact k1 (by omega)
def dgF (co : Nat) : Nat → Nat := fun j => if j = 0 then co / 1000 else if j = 1 then co / 100 % 10 else if j = 2 then co / 10 % 10 else co % 10
def hfN (t : List Nat) (j : Nat) : Nat := if j % 2 = 0 then t.getD (6 + j / 2) 0 / 16 else t.getD (6 + j / 2) 0 % 16
theorem all_s {A : Prop} {P : Nat → Prop} {k s s' : Nat} (h : s = 1 ↔ A ∧ ∀ j, j < k → P j) (h' : s' = 1 ↔ (s = 1 ∧ P k)) : s' = 1 ↔ A ∧ ∀ j, j < k + 1 → P j := by
  rw [h', h]
  constructor
  · rintro ⟨⟨a, b⟩, c⟩
    refine ⟨a, fun j hj => ?_⟩
    by_cases e : j = k
    · exact e ▸ c
    · exact b j (by omega)
  · rintro ⟨a, b⟩
    exact ⟨⟨a, fun j hj => b j (by omega)⟩, b k (by omega)⟩
theorem shp_iff {t : List Nat} : ((t.getD 5 0 = 36 ∧ ∀ j, j < 5 → t.getD (8 + j) 0 = 255) ∧ ∀ j, j < 4 → hfN t j ≤ 9) ↔ shpOk t := by
  constructor
  · rintro ⟨⟨a, b⟩, c⟩
    exact ⟨a, b 0 (by decide), b 1 (by decide), b 2 (by decide), b 3 (by decide), b 4 (by decide), c 0 (by decide), c 1 (by decide), c 2 (by decide), c 3 (by decide)⟩
  · rintro ⟨a, b0, b1, b2, b3, b4, c0, c1, c2, c3⟩
    refine ⟨⟨a, fun j hj => ?_⟩, fun j hj => ?_⟩
    · rcases (show j = 0 ∨ j = 1 ∨ j = 2 ∨ j = 3 ∨ j = 4 by omega) with rfl | rfl | rfl | rfl | rfl <;> assumption
    · rcases (show j = 0 ∨ j = 1 ∨ j = 2 ∨ j = 3 by omega) with rfl | rfl | rfl | rfl
      · exact c0
      · exact c1
      · exact c2
      · exact c3
theorem pin_iff {t : List Nat} {co : Nat} (hs : shpOk t) (hco : co ≤ 9999) : (∀ j, j < 4 → hfN t j = dgF co j) ↔ pinN t = co := by
  obtain ⟨a, b0, b1, b2, b3, b4, c0, c1, c2, c3⟩ := hs
  unfold pinN
  constructor
  · intro z
    have z0 : t.getD 6 0 / 16 = co / 1000 := z 0 (by decide)
    have z1 : t.getD 6 0 % 16 = co / 100 % 10 := z 1 (by decide)
    have z2 : t.getD 7 0 / 16 = co / 10 % 10 := z 2 (by decide)
    have z3 : t.getD 7 0 % 16 = co % 10 := z 3 (by decide)
    omega
  · intro z j hj
    rcases (show j = 0 ∨ j = 1 ∨ j = 2 ∨ j = 3 by omega) with rfl | rfl | rfl | rfl
    · show t.getD 6 0 / 16 = co / 1000
      omega
    · show t.getD 6 0 % 16 = co / 100 % 10
      omega
    · show t.getD 7 0 / 16 = co / 10 % 10
      omega
    · show t.getD 7 0 % 16 = co % 10
      omega
theorem hfN_lt {t : List Nat} (hb : Bb t) (j : Nat) : hfN t j < 256 := by
  have := getD_lt hb (6 + j / 2)
  unfold hfN
  split <;> omega
theorem dgF_lt {co : Nat} (hc : co ≤ 9999) (j : Nat) : dgF co j < 10 := by
  unfold dgF
  split
  · omega
  split
  · omega
  split <;> omega
theorem l2_prove {L : Nat} {xs : Nat → Int32} {Post : Option Value → mHeap → Prop} {h : mHeap} {fkey fdig fnm frc frl frb fen fta frd fbl fmo fse fre fma fend : Nat → Int32} {cu tr an sg am pv : Nat} {t : List Nat} {fr fo : Nat → Int32} (hB : MB h fkey fdig fnm frc frl frb fen fta frd fbl fmo fse fre fma fend) (ht0 : tr ≠ 0) (ht3 : tr ≤ 3) (ht : Rf t fr) (hbt : Bb t) (hn : t.length = 13) {co : Nat} (hco : co ≤ 9999) (hdg : FA 4 (dgF co) fdig) (k2 : ¬ shpOk t → Post (some (.int (nI 27264))) (pP h (cMod cu tr an sg am pv (t).length (([] : List Nat)).length) fr fo)) (k3 : shpOk t → pinN t = co → Post (some (.int (nI 36864))) (pP h (cMod cu 3 an sg am 1 (t).length (([] : List Nat)).length) fr fo)) (k4 : shpOk t → pinN t ≠ co → Post (some (.int (nI (25536 + (tr - 1))))) (pP h (cMod cu (tr - 1) an sg am 0 (t).length (([] : List Nat)).length) fr fo)) : ∀ (m k s e : Nat), k + m = 4 → s ≤ 1 → e ≤ 1 → (s = 1 ↔ (t.getD 5 0 = 36 ∧ ∀ j, j < 5 → t.getD (8 + j) 0 = 255) ∧ ∀ j, j < k → hfN t j ≤ 9) → (e = 1 ↔ True ∧ ∀ j, j < k → hfN t j = dgF co j) → mGo M_Mod_prove L xs (1, 22) 0 0 Post 0 0 70 [some (.ref 24), some (.int (nI s)), some (.int (nI e)), some (.int (nI k))] [] (pP h (cMod cu tr an sg am pv (t).length (([] : List Nat)).length) fr fo) := by
  intro m
  induction m with
  | zero =>
    intro k s e hk hs he h1 h2
    obtain rfl : k = 4 := by omega
    rcases (show e = 0 ∨ e = 1 by omega) with rfl | rfl
    · refine mj_iload_n d_Mod_prove_70 rfl ?_
      refine mj_iconst d_Mod_prove_71 (nI 4) (by decide) ?_
      refine mj_icmpgeN d_Mod_prove_72 125 rfl (by omega) (fun c_72 => ?_) (fun c_72 => ?_)
      · refine mj_iload_n d_Mod_prove_125 rfl ?_
        refine mj_ifneN d_Mod_prove_126 133 rfl (by omega) (fun c_126 => ?_) (fun c_126 => ?_)
        · have sh : shpOk t := shp_iff.mp (h1.mp (by omega))
          refine mj_aload_n d_Mod_prove_133 rfl ?_
          refine mj_iload_n d_Mod_prove_134 rfl ?_
          refine mj_put d_Mod_prove_135 fd_Mod_166 ft_Mod_11 (pP_24 hB.1) (Nat.le_of_ble_eq_true rfl) rfl rfl ?_
          rw [pP_s24]
          dsimp only [List.set]
          refine mj_aload_n d_Mod_prove_138 rfl ?_
          refine mj_iload_n d_Mod_prove_139 rfl ?_
          refine mj_ifeqN d_Mod_prove_140 147 rfl (by omega) (fun c_140 => ?_) (fun c_140 => ?_)
          · refine mj_aload_n d_Mod_prove_147 rfl ?_
            refine mj_get d_Mod_prove_148 fd_Mod_28 (pP_24 hB.1) rfl ?_
            refine mj_iconst d_Mod_prove_151 (nI 1) (by decide) ?_
            refine mj_isub d_Mod_prove_152 ?_
            rw [pk_sub (by omega)]
            refine mj_put d_Mod_prove_153 fd_Mod_28 ft_Mod_7 (pP_24 hB.1) (Nat.le_of_ble_eq_true rfl) rfl rfl ?_
            rw [pP_s24]
            dsimp only [List.set]
            refine mj_iload_n d_Mod_prove_156 rfl ?_
            refine mj_ifeqN d_Mod_prove_157 165 rfl (by omega) (fun c_157 => ?_) (fun c_157 => ?_)
            · refine mj_sipush d_Mod_prove_165 (nI 25536) (by decide) ?_
              refine mj_aload_n d_Mod_prove_168 rfl ?_
              refine mj_get d_Mod_prove_169 fd_Mod_28 (pP_24 hB.1) rfl ?_
              refine mj_iadd d_Mod_prove_172 ?_
              rw [nI_add]
              refine mj_iret d_Mod_prove_173 rfl rfl (Nat.le_refl _) (Nat.le_refl _) ?_
              first
                | omega
                | exact k3 sh ((pin_iff sh hco).mp (h2.mp rfl).2)
                | exact k4 sh (fun z => by have := h2.mpr ⟨trivial, (pin_iff sh hco).mpr z⟩; omega)
            · refine mj_ldc d_Mod_prove_160 (nI 36864) q_620 ?_
              refine mj_goto d_Mod_prove_162 173 rfl ?_
              refine mj_iret d_Mod_prove_173 rfl rfl (Nat.le_refl _) (Nat.le_refl _) ?_
              first
                | omega
                | exact k3 sh ((pin_iff sh hco).mp (h2.mp rfl).2)
                | exact k4 sh (fun z => by have := h2.mpr ⟨trivial, (pin_iff sh hco).mpr z⟩; omega)
          · refine mj_iconst d_Mod_prove_143 (nI 3) (by decide) ?_
            refine mj_goto d_Mod_prove_144 153 rfl ?_
            refine mj_put d_Mod_prove_153 fd_Mod_28 ft_Mod_7 (pP_24 hB.1) (Nat.le_of_ble_eq_true rfl) rfl rfl ?_
            rw [pP_s24]
            dsimp only [List.set]
            refine mj_iload_n d_Mod_prove_156 rfl ?_
            refine mj_ifeqN d_Mod_prove_157 165 rfl (by omega) (fun c_157 => ?_) (fun c_157 => ?_)
            · refine mj_sipush d_Mod_prove_165 (nI 25536) (by decide) ?_
              refine mj_aload_n d_Mod_prove_168 rfl ?_
              refine mj_get d_Mod_prove_169 fd_Mod_28 (pP_24 hB.1) rfl ?_
              refine mj_iadd d_Mod_prove_172 ?_
              rw [nI_add]
              refine mj_iret d_Mod_prove_173 rfl rfl (Nat.le_refl _) (Nat.le_refl _) ?_
              first
                | omega
                | exact k3 sh ((pin_iff sh hco).mp (h2.mp rfl).2)
                | exact k4 sh (fun z => by have := h2.mpr ⟨trivial, (pin_iff sh hco).mpr z⟩; omega)
            · refine mj_ldc d_Mod_prove_160 (nI 36864) q_620 ?_
              refine mj_goto d_Mod_prove_162 173 rfl ?_
              refine mj_iret d_Mod_prove_173 rfl rfl (Nat.le_refl _) (Nat.le_refl _) ?_
              first
                | omega
                | exact k3 sh ((pin_iff sh hco).mp (h2.mp rfl).2)
                | exact k4 sh (fun z => by have := h2.mpr ⟨trivial, (pin_iff sh hco).mpr z⟩; omega)
        · refine mj_sipush d_Mod_prove_129 (nI 27264) (by decide) ?_
          refine mj_iret d_Mod_prove_132 rfl rfl (Nat.le_refl _) (Nat.le_refl _) ?_
          refine k2 (fun z => ?_)
          have := h1.mpr (shp_iff.mpr z)
          omega
      · omega
    · refine mj_iload_n d_Mod_prove_70 rfl ?_
      refine mj_iconst d_Mod_prove_71 (nI 4) (by decide) ?_
      refine mj_icmpgeN d_Mod_prove_72 125 rfl (by omega) (fun c_72 => ?_) (fun c_72 => ?_)
      · refine mj_iload_n d_Mod_prove_125 rfl ?_
        refine mj_ifneN d_Mod_prove_126 133 rfl (by omega) (fun c_126 => ?_) (fun c_126 => ?_)
        · have sh : shpOk t := shp_iff.mp (h1.mp (by omega))
          refine mj_aload_n d_Mod_prove_133 rfl ?_
          refine mj_iload_n d_Mod_prove_134 rfl ?_
          refine mj_put d_Mod_prove_135 fd_Mod_166 ft_Mod_11 (pP_24 hB.1) (Nat.le_of_ble_eq_true rfl) rfl rfl ?_
          rw [pP_s24]
          dsimp only [List.set]
          refine mj_aload_n d_Mod_prove_138 rfl ?_
          refine mj_iload_n d_Mod_prove_139 rfl ?_
          refine mj_ifeqN d_Mod_prove_140 147 rfl (by omega) (fun c_140 => ?_) (fun c_140 => ?_)
          · refine mj_aload_n d_Mod_prove_147 rfl ?_
            refine mj_get d_Mod_prove_148 fd_Mod_28 (pP_24 hB.1) rfl ?_
            refine mj_iconst d_Mod_prove_151 (nI 1) (by decide) ?_
            refine mj_isub d_Mod_prove_152 ?_
            rw [pk_sub (by omega)]
            refine mj_put d_Mod_prove_153 fd_Mod_28 ft_Mod_7 (pP_24 hB.1) (Nat.le_of_ble_eq_true rfl) rfl rfl ?_
            rw [pP_s24]
            dsimp only [List.set]
            refine mj_iload_n d_Mod_prove_156 rfl ?_
            refine mj_ifeqN d_Mod_prove_157 165 rfl (by omega) (fun c_157 => ?_) (fun c_157 => ?_)
            · refine mj_sipush d_Mod_prove_165 (nI 25536) (by decide) ?_
              refine mj_aload_n d_Mod_prove_168 rfl ?_
              refine mj_get d_Mod_prove_169 fd_Mod_28 (pP_24 hB.1) rfl ?_
              refine mj_iadd d_Mod_prove_172 ?_
              rw [nI_add]
              refine mj_iret d_Mod_prove_173 rfl rfl (Nat.le_refl _) (Nat.le_refl _) ?_
              first
                | omega
                | exact k3 sh ((pin_iff sh hco).mp (h2.mp rfl).2)
                | exact k4 sh (fun z => by have := h2.mpr ⟨trivial, (pin_iff sh hco).mpr z⟩; omega)
            · refine mj_ldc d_Mod_prove_160 (nI 36864) q_620 ?_
              refine mj_goto d_Mod_prove_162 173 rfl ?_
              refine mj_iret d_Mod_prove_173 rfl rfl (Nat.le_refl _) (Nat.le_refl _) ?_
              first
                | omega
                | exact k3 sh ((pin_iff sh hco).mp (h2.mp rfl).2)
                | exact k4 sh (fun z => by have := h2.mpr ⟨trivial, (pin_iff sh hco).mpr z⟩; omega)
          · refine mj_iconst d_Mod_prove_143 (nI 3) (by decide) ?_
            refine mj_goto d_Mod_prove_144 153 rfl ?_
            refine mj_put d_Mod_prove_153 fd_Mod_28 ft_Mod_7 (pP_24 hB.1) (Nat.le_of_ble_eq_true rfl) rfl rfl ?_
            rw [pP_s24]
            dsimp only [List.set]
            refine mj_iload_n d_Mod_prove_156 rfl ?_
            refine mj_ifeqN d_Mod_prove_157 165 rfl (by omega) (fun c_157 => ?_) (fun c_157 => ?_)
            · refine mj_sipush d_Mod_prove_165 (nI 25536) (by decide) ?_
              refine mj_aload_n d_Mod_prove_168 rfl ?_
              refine mj_get d_Mod_prove_169 fd_Mod_28 (pP_24 hB.1) rfl ?_
              refine mj_iadd d_Mod_prove_172 ?_
              rw [nI_add]
              refine mj_iret d_Mod_prove_173 rfl rfl (Nat.le_refl _) (Nat.le_refl _) ?_
              first
                | omega
                | exact k3 sh ((pin_iff sh hco).mp (h2.mp rfl).2)
                | exact k4 sh (fun z => by have := h2.mpr ⟨trivial, (pin_iff sh hco).mpr z⟩; omega)
            · refine mj_ldc d_Mod_prove_160 (nI 36864) q_620 ?_
              refine mj_goto d_Mod_prove_162 173 rfl ?_
              refine mj_iret d_Mod_prove_173 rfl rfl (Nat.le_refl _) (Nat.le_refl _) ?_
              first
                | omega
                | exact k3 sh ((pin_iff sh hco).mp (h2.mp rfl).2)
                | exact k4 sh (fun z => by have := h2.mpr ⟨trivial, (pin_iff sh hco).mpr z⟩; omega)
        · refine mj_sipush d_Mod_prove_129 (nI 27264) (by decide) ?_
          refine mj_iret d_Mod_prove_132 rfl rfl (Nat.le_refl _) (Nat.le_refl _) ?_
          refine k2 (fun z => ?_)
          have := h1.mpr (shp_iff.mpr z)
          omega
      · omega
  | succ m ih =>
    intro k s e hk hs he h1 h2
    have q1 := hfN_lt hbt k
    have q2 := dgF_lt hco k
    refine mj_iload_n d_Mod_prove_70 rfl ?_
    refine mj_iconst d_Mod_prove_71 (nI 4) (by decide) ?_
    refine mj_icmpgeN d_Mod_prove_72 125 rfl (by omega) (fun c_72 => ?_) (fun c_72 => ?_)
    · omega
    · refine mj_iload_n d_Mod_prove_75 rfl ?_
      refine mj_ifeqN d_Mod_prove_76 93 rfl (by omega) (fun c_76 => ?_) (fun c_76 => ?_)
      · refine mj_iconst d_Mod_prove_93 (nI 0) (by decide) ?_
        refine mj_istore_n d_Mod_prove_94 (by decide) ?_
        dsimp only [mSt1, mSt2, mKill, Nat.reduceAdd]
        refine mj_iload_n d_Mod_prove_95 rfl ?_
        refine mj_ifeqN d_Mod_prove_96 117 rfl (by omega) (fun c_96 => ?_) (fun c_96 => ?_)
        · refine mj_iconst d_Mod_prove_117 (nI 0) (by decide) ?_
          refine mj_istore_n d_Mod_prove_118 (by decide) ?_
          dsimp only [mSt1, mSt2, mKill, Nat.reduceAdd]
          refine mj_iinc d_Mod_prove_119 rfl (by decide) (nI (k + 1)) (nI_1 k) ?_
          dsimp only [mSt1, mSt2, mKill, Nat.reduceAdd]
          refine mj_goto d_Mod_prove_122 70 rfl ?_
          exact ih (k + 1) _ _ (by omega) (by omega) (by omega) (all_s h1 (by omega)) (all_s h2 (by omega))
        · refine mj_aload_n d_Mod_prove_99 rfl ?_
          refine mj_iload_n d_Mod_prove_100 rfl ?_
          refine mj_virtual (d' := (0, 0)) (mc := 0) (ms := 0) (As := [_]) d_Mod_prove_101 cw_Mod_half q_638 q_640 qs_Mod_half (ci := 6) rfl (pP_24 hB.1) rfl rfl (mRoomB rfl) ?_
          refine s_Mod_half hB (k := k) (by omega) ht hbt (by omega) (by omega) ?_
          rw [← show hfN t k = (if k % 2 = 0 then t.getD (6 + k / 2) 0 / 16 else t.getD (6 + k / 2) 0 % 16) from rfl]
          refine mj_aload_n d_Mod_prove_104 rfl ?_
          refine mj_get d_Mod_prove_105 fd_Mod_13 (pP_24 hB.1) rfl ?_
          refine mj_iload_n d_Mod_prove_108 rfl ?_
          refine mj_ialdN d_Mod_prove_109 (pP_get hB.2.2.2.2.1 (by decide) (by decide) (by decide)) (by omega) ?_
          rw [hdg _ (by omega)]
          refine mj_icmpneN d_Mod_prove_110 117 rfl (by omega) (fun c_110 => ?_) (fun c_110 => ?_)
          · refine mj_iconst d_Mod_prove_117 (nI 0) (by decide) ?_
            refine mj_istore_n d_Mod_prove_118 (by decide) ?_
            dsimp only [mSt1, mSt2, mKill, Nat.reduceAdd]
            refine mj_iinc d_Mod_prove_119 rfl (by decide) (nI (k + 1)) (nI_1 k) ?_
            dsimp only [mSt1, mSt2, mKill, Nat.reduceAdd]
            refine mj_goto d_Mod_prove_122 70 rfl ?_
            exact ih (k + 1) _ _ (by omega) (by omega) (by omega) (all_s h1 (by omega)) (all_s h2 (by omega))
          · refine mj_iconst d_Mod_prove_113 (nI 1) (by decide) ?_
            refine mj_goto d_Mod_prove_114 118 rfl ?_
            refine mj_istore_n d_Mod_prove_118 (by decide) ?_
            dsimp only [mSt1, mSt2, mKill, Nat.reduceAdd]
            refine mj_iinc d_Mod_prove_119 rfl (by decide) (nI (k + 1)) (nI_1 k) ?_
            dsimp only [mSt1, mSt2, mKill, Nat.reduceAdd]
            refine mj_goto d_Mod_prove_122 70 rfl ?_
            exact ih (k + 1) _ _ (by omega) (by omega) (by omega) (all_s h1 (by omega)) (all_s h2 (by omega))
      · refine mj_aload_n d_Mod_prove_79 rfl ?_
        refine mj_iload_n d_Mod_prove_80 rfl ?_
        refine mj_virtual (d' := (0, 0)) (mc := 0) (ms := 0) (As := [_]) d_Mod_prove_81 cw_Mod_half q_638 q_640 qs_Mod_half (ci := 6) rfl (pP_24 hB.1) rfl rfl (mRoomB rfl) ?_
        refine s_Mod_half hB (k := k) (by omega) ht hbt (by omega) (by omega) ?_
        rw [← show hfN t k = (if k % 2 = 0 then t.getD (6 + k / 2) 0 / 16 else t.getD (6 + k / 2) 0 % 16) from rfl]
        refine mj_bipush d_Mod_prove_84 (nI 9) (by decide) ?_
        refine mj_icmpgtN d_Mod_prove_86 93 rfl (by omega) (fun c_86 => ?_) (fun c_86 => ?_)
        · refine mj_iconst d_Mod_prove_93 (nI 0) (by decide) ?_
          refine mj_istore_n d_Mod_prove_94 (by decide) ?_
          dsimp only [mSt1, mSt2, mKill, Nat.reduceAdd]
          refine mj_iload_n d_Mod_prove_95 rfl ?_
          refine mj_ifeqN d_Mod_prove_96 117 rfl (by omega) (fun c_96 => ?_) (fun c_96 => ?_)
          · refine mj_iconst d_Mod_prove_117 (nI 0) (by decide) ?_
            refine mj_istore_n d_Mod_prove_118 (by decide) ?_
            dsimp only [mSt1, mSt2, mKill, Nat.reduceAdd]
            refine mj_iinc d_Mod_prove_119 rfl (by decide) (nI (k + 1)) (nI_1 k) ?_
            dsimp only [mSt1, mSt2, mKill, Nat.reduceAdd]
            refine mj_goto d_Mod_prove_122 70 rfl ?_
            exact ih (k + 1) _ _ (by omega) (by omega) (by omega) (all_s h1 (by omega)) (all_s h2 (by omega))
          · refine mj_aload_n d_Mod_prove_99 rfl ?_
            refine mj_iload_n d_Mod_prove_100 rfl ?_
            refine mj_virtual (d' := (0, 0)) (mc := 0) (ms := 0) (As := [_]) d_Mod_prove_101 cw_Mod_half q_638 q_640 qs_Mod_half (ci := 6) rfl (pP_24 hB.1) rfl rfl (mRoomB rfl) ?_
            refine s_Mod_half hB (k := k) (by omega) ht hbt (by omega) (by omega) ?_
            rw [← show hfN t k = (if k % 2 = 0 then t.getD (6 + k / 2) 0 / 16 else t.getD (6 + k / 2) 0 % 16) from rfl]
            refine mj_aload_n d_Mod_prove_104 rfl ?_
            refine mj_get d_Mod_prove_105 fd_Mod_13 (pP_24 hB.1) rfl ?_
            refine mj_iload_n d_Mod_prove_108 rfl ?_
            refine mj_ialdN d_Mod_prove_109 (pP_get hB.2.2.2.2.1 (by decide) (by decide) (by decide)) (by omega) ?_
            rw [hdg _ (by omega)]
            refine mj_icmpneN d_Mod_prove_110 117 rfl (by omega) (fun c_110 => ?_) (fun c_110 => ?_)
            · refine mj_iconst d_Mod_prove_117 (nI 0) (by decide) ?_
              refine mj_istore_n d_Mod_prove_118 (by decide) ?_
              dsimp only [mSt1, mSt2, mKill, Nat.reduceAdd]
              refine mj_iinc d_Mod_prove_119 rfl (by decide) (nI (k + 1)) (nI_1 k) ?_
              dsimp only [mSt1, mSt2, mKill, Nat.reduceAdd]
              refine mj_goto d_Mod_prove_122 70 rfl ?_
              exact ih (k + 1) _ _ (by omega) (by omega) (by omega) (all_s h1 (by omega)) (all_s h2 (by omega))
            · refine mj_iconst d_Mod_prove_113 (nI 1) (by decide) ?_
              refine mj_goto d_Mod_prove_114 118 rfl ?_
              refine mj_istore_n d_Mod_prove_118 (by decide) ?_
              dsimp only [mSt1, mSt2, mKill, Nat.reduceAdd]
              refine mj_iinc d_Mod_prove_119 rfl (by decide) (nI (k + 1)) (nI_1 k) ?_
              dsimp only [mSt1, mSt2, mKill, Nat.reduceAdd]
              refine mj_goto d_Mod_prove_122 70 rfl ?_
              exact ih (k + 1) _ _ (by omega) (by omega) (by omega) (all_s h1 (by omega)) (all_s h2 (by omega))
        · refine mj_iconst d_Mod_prove_89 (nI 1) (by decide) ?_
          refine mj_goto d_Mod_prove_90 94 rfl ?_
          refine mj_istore_n d_Mod_prove_94 (by decide) ?_
          dsimp only [mSt1, mSt2, mKill, Nat.reduceAdd]
          refine mj_iload_n d_Mod_prove_95 rfl ?_
          refine mj_ifeqN d_Mod_prove_96 117 rfl (by omega) (fun c_96 => ?_) (fun c_96 => ?_)
          · refine mj_iconst d_Mod_prove_117 (nI 0) (by decide) ?_
            refine mj_istore_n d_Mod_prove_118 (by decide) ?_
            dsimp only [mSt1, mSt2, mKill, Nat.reduceAdd]
            refine mj_iinc d_Mod_prove_119 rfl (by decide) (nI (k + 1)) (nI_1 k) ?_
            dsimp only [mSt1, mSt2, mKill, Nat.reduceAdd]
            refine mj_goto d_Mod_prove_122 70 rfl ?_
            exact ih (k + 1) _ _ (by omega) (by omega) (by omega) (all_s h1 (by omega)) (all_s h2 (by omega))
          · refine mj_aload_n d_Mod_prove_99 rfl ?_
            refine mj_iload_n d_Mod_prove_100 rfl ?_
            refine mj_virtual (d' := (0, 0)) (mc := 0) (ms := 0) (As := [_]) d_Mod_prove_101 cw_Mod_half q_638 q_640 qs_Mod_half (ci := 6) rfl (pP_24 hB.1) rfl rfl (mRoomB rfl) ?_
            refine s_Mod_half hB (k := k) (by omega) ht hbt (by omega) (by omega) ?_
            rw [← show hfN t k = (if k % 2 = 0 then t.getD (6 + k / 2) 0 / 16 else t.getD (6 + k / 2) 0 % 16) from rfl]
            refine mj_aload_n d_Mod_prove_104 rfl ?_
            refine mj_get d_Mod_prove_105 fd_Mod_13 (pP_24 hB.1) rfl ?_
            refine mj_iload_n d_Mod_prove_108 rfl ?_
            refine mj_ialdN d_Mod_prove_109 (pP_get hB.2.2.2.2.1 (by decide) (by decide) (by decide)) (by omega) ?_
            rw [hdg _ (by omega)]
            refine mj_icmpneN d_Mod_prove_110 117 rfl (by omega) (fun c_110 => ?_) (fun c_110 => ?_)
            · refine mj_iconst d_Mod_prove_117 (nI 0) (by decide) ?_
              refine mj_istore_n d_Mod_prove_118 (by decide) ?_
              dsimp only [mSt1, mSt2, mKill, Nat.reduceAdd]
              refine mj_iinc d_Mod_prove_119 rfl (by decide) (nI (k + 1)) (nI_1 k) ?_
              dsimp only [mSt1, mSt2, mKill, Nat.reduceAdd]
              refine mj_goto d_Mod_prove_122 70 rfl ?_
              exact ih (k + 1) _ _ (by omega) (by omega) (by omega) (all_s h1 (by omega)) (all_s h2 (by omega))
            · refine mj_iconst d_Mod_prove_113 (nI 1) (by decide) ?_
              refine mj_goto d_Mod_prove_114 118 rfl ?_
              refine mj_istore_n d_Mod_prove_118 (by decide) ?_
              dsimp only [mSt1, mSt2, mKill, Nat.reduceAdd]
              refine mj_iinc d_Mod_prove_119 rfl (by decide) (nI (k + 1)) (nI_1 k) ?_
              dsimp only [mSt1, mSt2, mKill, Nat.reduceAdd]
              refine mj_goto d_Mod_prove_122 70 rfl ?_
              exact ih (k + 1) _ _ (by omega) (by omega) (by omega) (all_s h1 (by omega)) (all_s h2 (by omega))
theorem l1_prove {L : Nat} {xs : Nat → Int32} {Post : Option Value → mHeap → Prop} {h : mHeap} {fkey fdig fnm frc frl frb fen fta frd fbl fmo fse fre fma fend : Nat → Int32} {cu tr an sg am pv : Nat} {t : List Nat} {fr fo : Nat → Int32} (hB : MB h fkey fdig fnm frc frl frb fen fta frd fbl fmo fse fre fma fend) (ht0 : tr ≠ 0) (ht3 : tr ≤ 3) (ht : Rf t fr) (hbt : Bb t) (hn : t.length = 13) {co : Nat} (hco : co ≤ 9999) (hdg : FA 4 (dgF co) fdig) (k2 : ¬ shpOk t → Post (some (.int (nI 27264))) (pP h (cMod cu tr an sg am pv (t).length (([] : List Nat)).length) fr fo)) (k3 : shpOk t → pinN t = co → Post (some (.int (nI 36864))) (pP h (cMod cu 3 an sg am 1 (t).length (([] : List Nat)).length) fr fo)) (k4 : shpOk t → pinN t ≠ co → Post (some (.int (nI (25536 + (tr - 1))))) (pP h (cMod cu (tr - 1) an sg am 0 (t).length (([] : List Nat)).length) fr fo)) : ∀ (m k s : Nat), k + m = 5 → s ≤ 1 → (s = 1 ↔ t.getD 5 0 = 36 ∧ ∀ j, j < k → t.getD (8 + j) 0 = 255) → mGo M_Mod_prove L xs (1, 22) 0 0 Post 0 0 30 [some (.ref 24), some (.int (nI s)), some (.int (nI k)), none] [] (pP h (cMod cu tr an sg am pv (t).length (([] : List Nat)).length) fr fo) := by
  intro m
  induction m with
  | zero =>
    intro k s hk hs h1
    refine mj_iload_n d_Mod_prove_30 rfl ?_
    refine mj_iconst d_Mod_prove_31 (nI 5) (by decide) ?_
    refine mj_icmpgeN d_Mod_prove_32 66 rfl (by omega) (fun c_32 => ?_) (fun c_32 => ?_)
    · refine mj_iconst d_Mod_prove_66 (nI 1) (by decide) ?_
      refine mj_istore_n d_Mod_prove_67 (by decide) ?_
      dsimp only [mSt1, mSt2, mKill, Nat.reduceAdd]
      refine mj_iconst d_Mod_prove_68 (nI 0) (by decide) ?_
      refine mj_istore_n d_Mod_prove_69 (by decide) ?_
      dsimp only [mSt1, mSt2, mKill, Nat.reduceAdd]
      obtain rfl : k = 5 := by omega
      exact l2_prove hB ht0 ht3 ht hbt hn hco hdg k2 k3 k4 4 0 s 1 (by omega) (by omega) (by omega) ⟨fun z => ⟨h1.mp z, fun j hj => by omega⟩, fun z => h1.mpr z.1⟩ ⟨fun _ => ⟨trivial, fun j hj => by omega⟩, fun _ => rfl⟩
    · omega
  | succ m ih =>
    intro k s hk hs h1
    have b := getD_lt hbt (8 + k)
    refine mj_iload_n d_Mod_prove_30 rfl ?_
    refine mj_iconst d_Mod_prove_31 (nI 5) (by decide) ?_
    refine mj_icmpgeN d_Mod_prove_32 66 rfl (by omega) (fun c_32 => ?_) (fun c_32 => ?_)
    · omega
    · refine mj_iload_n d_Mod_prove_35 rfl ?_
      refine mj_ifeqN d_Mod_prove_36 58 rfl (by omega) (fun c_36 => ?_) (fun c_36 => ?_)
      · refine mj_iconst d_Mod_prove_58 (nI 0) (by decide) ?_
        refine mj_istore_n d_Mod_prove_59 (by decide) ?_
        dsimp only [mSt1, mSt2, mKill, Nat.reduceAdd]
        refine mj_iinc d_Mod_prove_60 rfl (by decide) (nI (k + 1)) (nI_1 k) ?_
        dsimp only [mSt1, mSt2, mKill, Nat.reduceAdd]
        refine mj_goto d_Mod_prove_63 30 rfl ?_
        exact ih (k + 1) _ (by omega) (by omega) (all_s h1 (by omega))
      · refine mj_aload_n d_Mod_prove_39 rfl ?_
        refine mj_get d_Mod_prove_40 fd_Mod_32 (pP_24 hB.1) rfl ?_
        refine mj_bipush d_Mod_prove_43 (nI 8) (by decide) ?_
        refine mj_iload_n d_Mod_prove_45 rfl ?_
        refine mj_iadd d_Mod_prove_46 ?_
        rw [nI_add]
        refine mj_ialdN d_Mod_prove_47 (pP_31 hB.2.1) (by omega) ?_
        rw [ht _ (by omega)]
        refine mj_sipush d_Mod_prove_48 (nI 255) (by decide) ?_
        refine mj_icmpneN d_Mod_prove_51 58 rfl (by omega) (fun c_51 => ?_) (fun c_51 => ?_)
        · refine mj_iconst d_Mod_prove_58 (nI 0) (by decide) ?_
          refine mj_istore_n d_Mod_prove_59 (by decide) ?_
          dsimp only [mSt1, mSt2, mKill, Nat.reduceAdd]
          refine mj_iinc d_Mod_prove_60 rfl (by decide) (nI (k + 1)) (nI_1 k) ?_
          dsimp only [mSt1, mSt2, mKill, Nat.reduceAdd]
          refine mj_goto d_Mod_prove_63 30 rfl ?_
          exact ih (k + 1) _ (by omega) (by omega) (all_s h1 (by omega))
        · refine mj_iconst d_Mod_prove_54 (nI 1) (by decide) ?_
          refine mj_goto d_Mod_prove_55 59 rfl ?_
          refine mj_istore_n d_Mod_prove_59 (by decide) ?_
          dsimp only [mSt1, mSt2, mKill, Nat.reduceAdd]
          refine mj_iinc d_Mod_prove_60 rfl (by decide) (nI (k + 1)) (nI_1 k) ?_
          dsimp only [mSt1, mSt2, mKill, Nat.reduceAdd]
          refine mj_goto d_Mod_prove_63 30 rfl ?_
          exact ih (k + 1) _ (by omega) (by omega) (all_s h1 (by omega))
theorem s_Mod_prove {L : Nat} {xs : Nat → Int32} {Post : Option Value → mHeap → Prop} {h : mHeap} {fkey fdig fnm frc frl frb fen fta frd fbl fmo fse fre fma fend : Nat → Int32} {cu tr an sg am pv : Nat} {t : List Nat} {fr fo : Nat → Int32} (hB : MB h fkey fdig fnm frc frl frb fen fta frd fbl fmo fse fre fma fend) (k1 : tr = 0 → Post (some (.int (nI 27011))) (pP h (cMod cu tr an sg am pv (t).length (([] : List Nat)).length) fr fo)) (ht3 : tr ≤ 3) (ht : Rf t fr) (hbt : Bb t) (hn : t.length = 13) {co : Nat} (hco : co ≤ 9999) (hdg : FA 4 (dgF co) fdig) (k2 : tr ≠ 0 → ¬ shpOk t → Post (some (.int (nI 27264))) (pP h (cMod cu tr an sg am pv (t).length (([] : List Nat)).length) fr fo)) (k3 : tr ≠ 0 → shpOk t → pinN t = co → Post (some (.int (nI 36864))) (pP h (cMod cu 3 an sg am 1 (t).length (([] : List Nat)).length) fr fo)) (k4 : tr ≠ 0 → shpOk t → pinN t ≠ co → Post (some (.int (nI (25536 + (tr - 1))))) (pP h (cMod cu (tr - 1) an sg am 0 (t).length (([] : List Nat)).length) fr fo)) : mMet M_Mod_prove L xs (1, 22) 0 0 [.ref 24] (pP h (cMod cu tr an sg am pv (t).length (([] : List Nat)).length) fr fo) Post := by
  refine mMet_of rfl (Nat.le_of_ble_eq_true rfl) ?_
  have b5 := getD_lt hbt 5
  refine mj_aload_n d_Mod_prove_0 rfl ?_
  refine mj_get d_Mod_prove_1 fd_Mod_28 (pP_24 hB.1) rfl ?_
  refine mj_ifneN d_Mod_prove_4 11 rfl (by omega) (fun c_4 => ?_) (fun c_4 => ?_)
  · refine mj_aload_n d_Mod_prove_11 rfl ?_
    refine mj_get d_Mod_prove_12 fd_Mod_32 (pP_24 hB.1) rfl ?_
    refine mj_iconst d_Mod_prove_15 (nI 5) (by decide) ?_
    refine mj_ialdN d_Mod_prove_16 (pP_31 hB.2.1) (by omega) ?_
    rw [ht _ (by omega)]
    refine mj_bipush d_Mod_prove_17 (nI 36) (by decide) ?_
    refine mj_icmpneN d_Mod_prove_19 26 rfl (by omega) (fun c_19 => ?_) (fun c_19 => ?_)
    · refine mj_iconst d_Mod_prove_26 (nI 0) (by decide) ?_
      refine mj_istore_n d_Mod_prove_27 (by decide) ?_
      dsimp only [mSt1, mSt2, mKill, Nat.reduceAdd]
      refine mj_iconst d_Mod_prove_28 (nI 0) (by decide) ?_
      refine mj_istore_n d_Mod_prove_29 (by decide) ?_
      dsimp only [mSt1, mSt2, mKill, Nat.reduceAdd]
      exact l1_prove hB (by omega) ht3 ht hbt hn hco hdg (k2 (by omega)) (k3 (by omega)) (k4 (by omega)) 5 0 _ (by omega) (by omega) ⟨fun z => ⟨by omega, fun j hj => by omega⟩, fun z => by have := z.1; omega⟩
    · refine mj_iconst d_Mod_prove_22 (nI 1) (by decide) ?_
      refine mj_goto d_Mod_prove_23 27 rfl ?_
      refine mj_istore_n d_Mod_prove_27 (by decide) ?_
      dsimp only [mSt1, mSt2, mKill, Nat.reduceAdd]
      refine mj_iconst d_Mod_prove_28 (nI 0) (by decide) ?_
      refine mj_istore_n d_Mod_prove_29 (by decide) ?_
      dsimp only [mSt1, mSt2, mKill, Nat.reduceAdd]
      exact l1_prove hB (by omega) ht3 ht hbt hn hco hdg (k2 (by omega)) (k3 (by omega)) (k4 (by omega)) 5 0 _ (by omega) (by omega) ⟨fun z => ⟨by omega, fun j hj => by omega⟩, fun z => by have := z.1; omega⟩
  · refine mj_sipush d_Mod_prove_7 (nI 27011) (by decide) ?_
    refine mj_iret d_Mod_prove_10 rfl rfl (Nat.le_refl _) (Nat.le_refl _) ?_
    exact k1 (by omega)
theorem s_Mod_given {L : Nat} {xs : Nat → Int32} {Post : Option Value → mHeap → Prop} {h : mHeap} {fkey fdig fnm frc frl frb fen fta frd fbl fmo fse fre fma fend : Nat → Int32} {cu tr an sg am pv : Nat} {t r : List Nat} {fr fo : Nat → Int32} (hB : MB h fkey fdig fnm frc frl frb fen fta frd fbl fmo fse fre fma fend) (ht : Rf t fr) (hbt : Bb t) (htl : t.length ≤ 40) (hn : 15 ≤ t.length) (hn2 : sg = 3 → 17 ≤ t.length) (ham : am < 2 ^ 48) (hsg : sg = 2 ∨ sg = 3) (han : an < 1000) (hpv : pv < 2) (kk : Post (some (.int (nI (givN t am sg an pv)))) (pP h (cMod cu tr an sg am pv (t).length (r).length) fr fo)) : mMet M_Mod_given L xs (1, 24) 0 0 [.ref 24] (pP h (cMod cu tr an sg am pv (t).length (r).length) fr fo) Post := by
  refine mMet_of rfl (Nat.le_of_ble_eq_true rfl) ?_
  have p2 := getD_lt hbt 2
  have p15 := getD_lt hbt 15
  have p16 := getD_lt hbt 16
  have pa := amtN_lt hbt (p := 5) (c := 6) (by decide)
  refine mj_aload_n d_Mod_given_0 rfl ?_
  refine mj_get d_Mod_given_1 fd_Mod_32 (pP_24 hB.1) rfl ?_
  refine mj_iconst d_Mod_given_4 (nI 2) (by decide) ?_
  refine mj_ialdN d_Mod_given_5 (pP_31 hB.2.1) (by omega) ?_
  rw [ht _ (by omega)]
  refine mj_istore_n d_Mod_given_6 (by decide) ?_
  dsimp only [mSt1, mSt2, mKill, Nat.reduceAdd]
  refine mj_aload_n d_Mod_given_7 rfl ?_
  refine mj_iconst d_Mod_given_8 (nI 5) (by decide) ?_
  refine mj_virtual (d' := (0, 0)) (mc := 0) (ms := 0) (As := [_]) d_Mod_given_9 cw_Mod_sixFrom q_625 q_627 qs_Mod_sixFrom (ci := 6) rfl (pP_24 hB.1) rfl rfl (mRoomB rfl) ?_
  refine s_Mod_sixFrom hB ht hbt (by omega) (by omega) ?_
  refine mj_aload_n d_Mod_given_12 rfl ?_
  refine mj_get d_Mod_given_13 fd_Mod_162 (pP_24 hB.1) rfl ?_
  refine mj_lcmp d_Mod_given_16 ?_
  refine mj_ifne d_Mod_given_17 24 rfl (fun c_17 => ?_) (fun c_17 => ?_)
  · refine mj_iconst d_Mod_given_24 (nI 0) (by decide) ?_
    refine mj_iret d_Mod_given_25 rfl rfl (Nat.le_refl _) (Nat.le_refl _) ?_
    unfold givN at kk
    first
      | (rw [if_pos (Or.inl (fun z => c_17 (cmp0.mpr (by rw [z])))) ] at kk; exact kk)
      | (rw [if_pos (Or.inr (by omega))] at kk; exact kk)
  · refine mj_iload_n d_Mod_given_20 rfl ?_
    refine mj_ifneN d_Mod_given_21 26 rfl (by omega) (fun c_21 => ?_) (fun c_21 => ?_)
    · refine mj_aload_n d_Mod_given_26 rfl ?_
      refine mj_get d_Mod_given_27 fd_Mod_109 (pP_24 hB.1) rfl ?_
      refine mj_iconst d_Mod_given_30 (nI 2) (by decide) ?_
      refine mj_icmpneN d_Mod_given_31 65 rfl (by omega) (fun c_31 => ?_) (fun c_31 => ?_)
      · refine mj_iload_n d_Mod_given_65 rfl ?_
        refine mj_bipush d_Mod_given_66 (nI 64) (by decide) ?_
        refine mj_icmpneN d_Mod_given_68 100 rfl (by omega) (fun c_68 => ?_) (fun c_68 => ?_)
        · refine mj_iconst d_Mod_given_100 (nI 0) (by decide) ?_
          refine mj_iret d_Mod_given_101 rfl rfl (Nat.le_refl _) (Nat.le_refl _) ?_
          have ea := lN_inj (by omega) (by omega) (cmp0.mp c_17)
          unfold givN at kk
          rw [if_neg (by omega), if_neg (by omega)] at kk
          first
            | (rw [if_pos (by omega)] at kk; exact kk)
            | (rw [if_neg (by omega)] at kk; exact kk)
        · refine mj_aload_n d_Mod_given_71 rfl ?_
          refine mj_get d_Mod_given_72 fd_Mod_32 (pP_24 hB.1) rfl ?_
          refine mj_bipush d_Mod_given_75 (nI 15) (by decide) ?_
          refine mj_ialdN d_Mod_given_77 (pP_31 hB.2.1) (by omega) ?_
          rw [ht _ (by omega)]
          refine mj_bipush d_Mod_given_78 (nI 48) (by decide) ?_
          refine mj_icmpneN d_Mod_given_80 100 rfl (by omega) (fun c_80 => ?_) (fun c_80 => ?_)
          · refine mj_iconst d_Mod_given_100 (nI 0) (by decide) ?_
            refine mj_iret d_Mod_given_101 rfl rfl (Nat.le_refl _) (Nat.le_refl _) ?_
            have ea := lN_inj (by omega) (by omega) (cmp0.mp c_17)
            unfold givN at kk
            rw [if_neg (by omega), if_neg (by omega)] at kk
            first
              | (rw [if_pos (by omega)] at kk; exact kk)
              | (rw [if_neg (by omega)] at kk; exact kk)
          · refine mj_aload_n d_Mod_given_83 rfl ?_
            refine mj_get d_Mod_given_84 fd_Mod_32 (pP_24 hB.1) rfl ?_
            refine mj_bipush d_Mod_given_87 (nI 16) (by decide) ?_
            refine mj_ialdN d_Mod_given_89 (pP_31 hB.2.1) (by omega) ?_
            rw [ht _ (by omega)]
            refine mj_bipush d_Mod_given_90 (nI 48) (by decide) ?_
            refine mj_icmpneN d_Mod_given_92 100 rfl (by omega) (fun c_92 => ?_) (fun c_92 => ?_)
            · refine mj_iconst d_Mod_given_100 (nI 0) (by decide) ?_
              refine mj_iret d_Mod_given_101 rfl rfl (Nat.le_refl _) (Nat.le_refl _) ?_
              have ea := lN_inj (by omega) (by omega) (cmp0.mp c_17)
              unfold givN at kk
              rw [if_neg (by omega), if_neg (by omega)] at kk
              first
                | (rw [if_pos (by omega)] at kk; exact kk)
                | (rw [if_neg (by omega)] at kk; exact kk)
            · refine mj_bipush d_Mod_given_95 (nI 64) (by decide) ?_
              refine mj_goto d_Mod_given_97 101 rfl ?_
              refine mj_iret d_Mod_given_101 rfl rfl (Nat.le_refl _) (Nat.le_refl _) ?_
              have ea := lN_inj (by omega) (by omega) (cmp0.mp c_17)
              unfold givN at kk
              rw [if_neg (by omega), if_neg (by omega)] at kk
              first
                | (rw [if_pos (by omega)] at kk; exact kk)
                | (rw [if_neg (by omega)] at kk; exact kk)
      · refine mj_iload_n d_Mod_given_34 rfl ?_
        refine mj_sipush d_Mod_given_35 (nI 128) (by decide) ?_
        refine mj_icmpeqN d_Mod_given_38 56 rfl (by omega) (fun c_38 => ?_) (fun c_38 => ?_)
        · refine mj_sipush d_Mod_given_56 (nI 128) (by decide) ?_
          refine mj_goto d_Mod_given_59 64 rfl ?_
          refine mj_iret d_Mod_given_64 rfl rfl (Nat.le_refl _) (Nat.le_refl _) ?_
          have ea := lN_inj (by omega) (by omega) (cmp0.mp c_17)
          unfold givN at kk
          rw [if_neg (by omega), if_pos (by omega)] at kk
          first
            | (rw [if_pos (by omega)] at kk; exact kk)
            | (rw [if_neg (by omega)] at kk; exact kk)
        · refine mj_aload_n d_Mod_given_41 rfl ?_
          refine mj_get d_Mod_given_42 fd_Mod_166 (pP_24 hB.1) rfl ?_
          refine mj_ifeqN d_Mod_given_45 56 rfl (by omega) (fun c_45 => ?_) (fun c_45 => ?_)
          · refine mj_sipush d_Mod_given_56 (nI 128) (by decide) ?_
            refine mj_goto d_Mod_given_59 64 rfl ?_
            refine mj_iret d_Mod_given_64 rfl rfl (Nat.le_refl _) (Nat.le_refl _) ?_
            have ea := lN_inj (by omega) (by omega) (cmp0.mp c_17)
            unfold givN at kk
            rw [if_neg (by omega), if_pos (by omega)] at kk
            first
              | (rw [if_pos (by omega)] at kk; exact kk)
              | (rw [if_neg (by omega)] at kk; exact kk)
          · refine mj_aload_n d_Mod_given_48 rfl ?_
            refine mj_get d_Mod_given_49 fd_Mod_173 (pP_24 hB.1) rfl ?_
            refine mj_iconst d_Mod_given_52 (nI 2) (by decide) ?_
            refine mj_icmpltN d_Mod_given_53 62 rfl (by omega) (fun c_53 => ?_) (fun c_53 => ?_)
            · refine mj_bipush d_Mod_given_62 (nI 64) (by decide) ?_
              refine mj_iret d_Mod_given_64 rfl rfl (Nat.le_refl _) (Nat.le_refl _) ?_
              have ea := lN_inj (by omega) (by omega) (cmp0.mp c_17)
              unfold givN at kk
              rw [if_neg (by omega), if_pos (by omega)] at kk
              first
                | (rw [if_pos (by omega)] at kk; exact kk)
                | (rw [if_neg (by omega)] at kk; exact kk)
            · refine mj_sipush d_Mod_given_56 (nI 128) (by decide) ?_
              refine mj_goto d_Mod_given_59 64 rfl ?_
              refine mj_iret d_Mod_given_64 rfl rfl (Nat.le_refl _) (Nat.le_refl _) ?_
              have ea := lN_inj (by omega) (by omega) (cmp0.mp c_17)
              unfold givN at kk
              rw [if_neg (by omega), if_pos (by omega)] at kk
              first
                | (rw [if_pos (by omega)] at kk; exact kk)
                | (rw [if_neg (by omega)] at kk; exact kk)
    · refine mj_iconst d_Mod_given_24 (nI 0) (by decide) ?_
      refine mj_iret d_Mod_given_25 rfl rfl (Nat.le_refl _) (Nat.le_refl _) ?_
      unfold givN at kk
      first
        | (rw [if_pos (Or.inl (fun z => c_17 (cmp0.mpr (by rw [z])))) ] at kk; exact kk)
        | (rw [if_pos (Or.inr (by omega))] at kk; exact kk)
