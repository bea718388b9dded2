theorem s_Mod_tell {L : Nat} {xs : Nat → Int32} {Post : Option Value → mHeap → Prop} {h : mHeap} {fkey fdig fnm frc frl frb fen fta frd fbl fmo fse fre fma fend : Nat → Int32} {cu tr an sg am pv : Nat} {t : List Nat} {fr fo : Nat → Int32} (hB : MB h fkey fdig fnm frc frl frb fen fta frd fbl fmo fse fre fma fend) (ht : Rf t fr) (hbt : Bb t) (h4 : t.length = 4) (hu : cu < 65536) (h3 : t.getD 3 0 = 54 ∨ t.getD 3 0 = 23) (kk : ∀ f, Rf (if t.getD 3 0 = 54 then [159, 54, 2, cu / 256, cu % 256] else [159, 23, 1, tr]) f → Post (some (.int (nI 36864))) (pP h (cMod cu tr an sg am pv (t).length ((if t.getD 3 0 = 54 then [159, 54, 2, cu / 256, cu % 256] else [159, 23, 1, tr])).length) fr f)) : mMet M_Mod_tell L xs (2, 43) 0 0 [.ref 24] (pP h (cMod cu tr an sg am pv (t).length (([] : List Nat)).length) fr fo) Post := by
  refine mMet_of rfl (Nat.le_of_ble_eq_true rfl) ?_
  have b3 := getD_lt hbt 3
  refine mj_aload_n d_Mod_tell_0 rfl ?_
  refine mj_get d_Mod_tell_1 fd_Mod_32 (pP_24 hB.1) rfl ?_
  refine mj_iconst d_Mod_tell_4 (nI 3) (by decide) ?_
  refine mj_ialdN d_Mod_tell_5 (pP_31 hB.2.1) (by omega) ?_
  rw [ht _ (by omega)]
  refine mj_istore_n d_Mod_tell_6 (by decide) ?_
  dsimp only [mSt1, mSt2, mKill, Nat.reduceAdd]
  refine mj_aload_n d_Mod_tell_7 rfl ?_
  refine mj_sipush d_Mod_tell_8 (nI 159) (by decide) ?_
  refine mj_iload_n d_Mod_tell_11 rfl ?_
  refine mj_virtual (d' := (1, 21)) (mc := 0) (ms := 0) (As := [_, _]) d_Mod_tell_12 cw_Mod_say2 q_612 q_614 qs_Mod_say2 (ci := 6) rfl (pP_24 hB.1) rfl rfl (mRoomB rfl) ?_
  refine s_Mod_say2 hB (r := []) (fun j hj => by cases hj) (by decide) (fun f1 g1 => ?_)
  refine mj_iload_n d_Mod_tell_15 rfl ?_
  refine mj_bipush d_Mod_tell_16 (nI 54) (by decide) ?_
  refine mj_icmpneN d_Mod_tell_18 48 rfl (by omega) (fun c_18 => ?_) (fun c_18 => ?_)
  · refine mj_aload_n d_Mod_tell_48 rfl ?_
    refine mj_iconst d_Mod_tell_49 (nI 1) (by decide) ?_
    refine mj_aload_n d_Mod_tell_50 rfl ?_
    refine mj_get d_Mod_tell_51 fd_Mod_28 (pP_24 hB.1) rfl ?_
    refine mj_virtual (d' := (1, 21)) (mc := 0) (ms := 0) (As := [_, _]) d_Mod_tell_54 cw_Mod_say2 q_612 q_614 qs_Mod_say2 (ci := 6) rfl (pP_24 hB.1) rfl rfl (mRoomB rfl) ?_
    refine s_Mod_say2 hB g1 (by simp) (fun f3 g3 => ?_)
    refine mj_ldc d_Mod_tell_57 (nI 36864) q_620 ?_
    refine mj_iret d_Mod_tell_59 rfl rfl (Nat.le_refl _) (Nat.le_refl _) ?_
    first
      | (rw [if_pos c_18] at kk
         have e : [] ++ [159, t.getD 3 0] ++ [2] ++ [cu / 256, cu % 256] = [159, 54, 2, cu / 256, cu % 256] := by rw [c_18]; rfl
         rw [e] at g3 ⊢; exact kk f3 g3)
      | (rw [if_neg c_18] at kk
         have e : [] ++ [159, t.getD 3 0] ++ [1, tr] = [159, 23, 1, tr] := by rw [show t.getD 3 0 = 23 by omega]; rfl
         rw [e] at g3 ⊢; exact kk f3 g3)
  · refine mj_aload_n d_Mod_tell_21 rfl ?_
    refine mj_iconst d_Mod_tell_22 (nI 2) (by decide) ?_
    refine mj_virtual (d' := (0, 0)) (mc := 0) (ms := 0) (As := [_]) d_Mod_tell_23 cw_Mod_say q_616 q_618 qs_Mod_say (ci := 6) rfl (pP_24 hB.1) rfl rfl (mRoomB rfl) ?_
    refine s_Mod_say hB g1 (by simp) (fun f2 g2 => ?_)
    refine mj_aload_n d_Mod_tell_26 rfl ?_
    refine mj_aload_n d_Mod_tell_27 rfl ?_
    refine mj_get d_Mod_tell_28 fd_Mod_112 (pP_24 hB.1) rfl ?_
    refine mj_bipush d_Mod_tell_31 (nI 8) (by decide) ?_
    refine mj_ishr d_Mod_tell_33 ?_
    rw [nI_sh8 hu]
    refine mj_aload_n d_Mod_tell_34 rfl ?_
    refine mj_get d_Mod_tell_35 fd_Mod_112 (pP_24 hB.1) rfl ?_
    refine mj_sipush d_Mod_tell_38 (nI 255) (by decide) ?_
    refine mj_iand d_Mod_tell_41 ?_
    rw [nI_and255 (by omega)]
    refine mj_virtual (d' := (1, 21)) (mc := 0) (ms := 0) (As := [_, _]) d_Mod_tell_42 cw_Mod_say2 q_612 q_614 qs_Mod_say2 (ci := 6) rfl (pP_24 hB.1) rfl rfl (mRoomB rfl) ?_
    refine s_Mod_say2 hB g2 (by simp) (fun f3 g3 => ?_)
    refine mj_goto d_Mod_tell_45 57 rfl ?_
    refine mj_ldc d_Mod_tell_57 (nI 36864) q_620 ?_
    refine mj_iret d_Mod_tell_59 rfl rfl (Nat.le_refl _) (Nat.le_refl _) ?_
    first
      | (rw [if_pos c_18] at kk
         have e : [] ++ [159, t.getD 3 0] ++ [2] ++ [cu / 256, cu % 256] = [159, 54, 2, cu / 256, cu % 256] := by rw [c_18]; rfl
         rw [e] at g3 ⊢; exact kk f3 g3)
      | (rw [if_neg c_18] at kk
         have e : [] ++ [159, t.getD 3 0] ++ [1, tr] = [159, 23, 1, tr] := by rw [show t.getD 3 0 = 23 by omega]; rfl
         rw [e] at g3 ⊢; exact kk f3 g3)
theorem ln_select {L : Nat} {xs : Nat → Int32} {Post : Option Value → mHeap → Prop} {h : mHeap} {fkey fdig fnm frc frl frb fen fta frd fbl fmo fse fre fma fend : Nat → Int32} {cu tr an am pv : Nat} {t : List Nat} {fr : Nat → Int32} (hB : MB h fkey fdig fnm frc frl frb fen fta frd fbl fmo fse fre fma fend) {nm : List Nat} (hnm : Rf nm fnm) (hml : nm.length = 7) (hmb : Bb nm) (kk : ∀ f, Rf (selR nm) f → Post (some (.int (nI 36864))) (pP h (cMod cu tr an 1 am pv (t).length (selR nm).length) fr f)) : ∀ (m i : Nat) (f : Nat → Int32), i + m = 7 → Rf ([111, 23, 132, 7] ++ nm.take i) f → mGo M_Mod_select L xs (2, 43) 0 0 Post 0 0 71 [some (.ref 24), some (.int (nI (datN t))), some (.int (nI i))] [] (pP h (cMod cu tr an 1 am pv (t).length ([111, 23, 132, 7] ++ nm.take i).length) fr f) := by
  intro m
  induction m with
  | zero =>
    intro i f hi hf
    refine mj_iload_n d_Mod_select_71 rfl ?_
    refine mj_bipush d_Mod_select_72 (nI 7) (by decide) ?_
    refine mj_icmpgeN d_Mod_select_74 93 rfl (by omega) (fun c_74 => ?_) (fun c_74 => ?_)
    · have g0 := hf
      rw [List.take_of_length_le (by omega)] at g0 ⊢
      refine mj_aload_n d_Mod_select_93 rfl ?_
      refine mj_sipush d_Mod_select_94 (nI 165) (by decide) ?_
      refine mj_bipush d_Mod_select_97 (nI 12) (by decide) ?_
      refine mj_virtual (d' := (1, 21)) (mc := 0) (ms := 0) (As := [_, _]) d_Mod_select_99 cw_Mod_say2 q_612 q_614 qs_Mod_say2 (ci := 6) rfl (pP_24 hB.1) rfl rfl (mRoomB rfl) ?_
      refine s_Mod_say2 hB g0 (by simp [hml]) (fun f1 g1 => ?_)
      refine mj_aload_n d_Mod_select_102 rfl ?_
      refine mj_bipush d_Mod_select_103 (nI 80) (by decide) ?_
      refine mj_iconst d_Mod_select_105 (nI 4) (by decide) ?_
      refine mj_virtual (d' := (1, 21)) (mc := 0) (ms := 0) (As := [_, _]) d_Mod_select_106 cw_Mod_say2 q_612 q_614 qs_Mod_say2 (ci := 6) rfl (pP_24 hB.1) rfl rfl (mRoomB rfl) ?_
      refine s_Mod_say2 hB g1 (by simp [hml]) (fun f2 g2 => ?_)
      refine mj_aload_n d_Mod_select_109 rfl ?_
      refine mj_bipush d_Mod_select_110 (nI 67) (by decide) ?_
      refine mj_bipush d_Mod_select_112 (nI 65) (by decide) ?_
      refine mj_virtual (d' := (1, 21)) (mc := 0) (ms := 0) (As := [_, _]) d_Mod_select_114 cw_Mod_say2 q_612 q_614 qs_Mod_say2 (ci := 6) rfl (pP_24 hB.1) rfl rfl (mRoomB rfl) ?_
      refine s_Mod_say2 hB g2 (by simp [hml]) (fun f3 g3 => ?_)
      refine mj_aload_n d_Mod_select_117 rfl ?_
      refine mj_bipush d_Mod_select_118 (nI 82) (by decide) ?_
      refine mj_bipush d_Mod_select_120 (nI 68) (by decide) ?_
      refine mj_virtual (d' := (1, 21)) (mc := 0) (ms := 0) (As := [_, _]) d_Mod_select_122 cw_Mod_say2 q_612 q_614 qs_Mod_say2 (ci := 6) rfl (pP_24 hB.1) rfl rfl (mRoomB rfl) ?_
      refine s_Mod_say2 hB g3 (by simp [hml]) (fun f4 g4 => ?_)
      refine mj_aload_n d_Mod_select_125 rfl ?_
      refine mj_sipush d_Mod_select_126 (nI 159) (by decide) ?_
      refine mj_bipush d_Mod_select_129 (nI 56) (by decide) ?_
      refine mj_virtual (d' := (1, 21)) (mc := 0) (ms := 0) (As := [_, _]) d_Mod_select_131 cw_Mod_say2 q_612 q_614 qs_Mod_say2 (ci := 6) rfl (pP_24 hB.1) rfl rfl (mRoomB rfl) ?_
      refine s_Mod_say2 hB g4 (by simp [hml]) (fun f5 g5 => ?_)
      refine mj_aload_n d_Mod_select_134 rfl ?_
      refine mj_iconst d_Mod_select_135 (nI 3) (by decide) ?_
      refine mj_sipush d_Mod_select_136 (nI 159) (by decide) ?_
      refine mj_virtual (d' := (1, 21)) (mc := 0) (ms := 0) (As := [_, _]) d_Mod_select_139 cw_Mod_say2 q_612 q_614 qs_Mod_say2 (ci := 6) rfl (pP_24 hB.1) rfl rfl (mRoomB rfl) ?_
      refine s_Mod_say2 hB g5 (by simp [hml]) (fun f6 g6 => ?_)
      refine mj_aload_n d_Mod_select_142 rfl ?_
      refine mj_iconst d_Mod_select_143 (nI 2) (by decide) ?_
      refine mj_bipush d_Mod_select_144 (nI 6) (by decide) ?_
      refine mj_virtual (d' := (1, 21)) (mc := 0) (ms := 0) (As := [_, _]) d_Mod_select_146 cw_Mod_say2 q_612 q_614 qs_Mod_say2 (ci := 6) rfl (pP_24 hB.1) rfl rfl (mRoomB rfl) ?_
      refine s_Mod_say2 hB g6 (by simp [hml]) (fun f7 g7 => ?_)
      refine mj_ldc d_Mod_select_149 (nI 36864) q_620 ?_
      refine mj_iret d_Mod_select_151 rfl rfl (Nat.le_refl _) (Nat.le_refl _) ?_
      have e : [111, 23, 132, 7] ++ nm ++ [165, 12] ++ [80, 4] ++ [67, 65] ++ [82, 68] ++ [159, 56] ++ [3, 159] ++ [2, 6] = selR nm := by unfold selR; simp
      rw [e] at g7 ⊢
      exact kk f7 g7
    · omega
  | succ m ih =>
    intro i f hi hf
    refine mj_iload_n d_Mod_select_71 rfl ?_
    refine mj_bipush d_Mod_select_72 (nI 7) (by decide) ?_
    refine mj_icmpgeN d_Mod_select_74 93 rfl (by omega) (fun c_74 => ?_) (fun c_74 => ?_)
    · omega
    · refine mj_aload_n d_Mod_select_77 rfl ?_
      refine mj_aload_n d_Mod_select_78 rfl ?_
      refine mj_get d_Mod_select_79 fd_Mod_16 (pP_24 hB.1) rfl ?_
      refine mj_iload_n d_Mod_select_82 rfl ?_
      refine mj_ialdN d_Mod_select_83 (pP_get hB.2.2.2.2.2.1 (by decide) (by decide) (by decide)) (by omega) ?_
      rw [hnm _ (by omega)]
      refine mj_virtual (d' := (0, 0)) (mc := 0) (ms := 0) (As := [_]) d_Mod_select_84 cw_Mod_say q_616 q_618 qs_Mod_say (ci := 6) rfl (pP_24 hB.1) rfl rfl (mRoomB rfl) ?_
      refine s_Mod_say hB hf (by simp; omega) (fun f1 g1 => ?_)
      rw [List.append_assoc, take_s (by omega)] at g1 ⊢
      refine mj_iinc d_Mod_select_87 rfl (by decide) (nI (i + 1)) (nI_1 i) ?_
      dsimp only [mSt1, mSt2, mKill, Nat.reduceAdd]
      refine mj_goto d_Mod_select_90 71 rfl ?_
      exact ih (i + 1) f1 (by omega) g1
theorem lc_select {L : Nat} {xs : Nat → Int32} {Post : Option Value → mHeap → Prop} {h : mHeap} {fkey fdig fnm frc frl frb fen fta frd fbl fmo fse fre fma fend : Nat → Int32} {cu tr an sg am pv : Nat} {t : List Nat} {fr fo : Nat → Int32} (hB : MB h fkey fdig fnm frc frl frb fen fta frd fbl fmo fse fre fma fend) {nm : List Nat} (hnm : Rf nm fnm) (hml : nm.length = 7) (hmb : Bb nm) (ht : Rf t fr) (hbt : Bb t) (htl : t.length ≤ 40) (hd : datN t + 5 = t.length) (kF : ¬ preOk t nm → Post (some (.int (nI 27266))) (pP h (cMod cu tr an sg am pv (t).length (([] : List Nat)).length) fr fo)) (kT : preOk t nm → ∀ f, Rf (selR nm) f → Post (some (.int (nI 36864))) (pP h (cMod cu tr an 1 am pv (t).length (selR nm).length) fr f)) : ∀ (m i : Nat), i + m = datN t → i ≤ 7 → (∀ j, j < i → t.getD (5 + j) 0 = nm.getD j 0) → mGo M_Mod_select L xs (2, 43) 0 0 Post 0 0 9 [some (.ref 24), some (.int (nI (datN t))), some (.int (nI i))] [] (pP h (cMod cu tr an sg am pv (t).length (([] : List Nat)).length) fr fo) := by
  intro m
  induction m with
  | zero =>
    intro i hi h7 hall
    refine mj_iload_n d_Mod_select_9 rfl ?_
    refine mj_iload_n d_Mod_select_10 rfl ?_
    refine mj_icmpgeN d_Mod_select_11 47 rfl (by omega) (fun c_11 => ?_) (fun c_11 => ?_)
    · refine mj_aload_n d_Mod_select_47 rfl ?_
      refine mj_iconst d_Mod_select_48 (nI 1) (by decide) ?_
      refine mj_put d_Mod_select_49 fd_Mod_109 ft_Mod_9 (pP_24 hB.1) (Nat.le_of_ble_eq_true rfl) rfl rfl ?_
      rw [pP_s24]
      dsimp only [List.set]
      refine mj_aload_n d_Mod_select_52 rfl ?_
      refine mj_bipush d_Mod_select_53 (nI 111) (by decide) ?_
      refine mj_bipush d_Mod_select_55 (nI 23) (by decide) ?_
      refine mj_virtual (d' := (1, 21)) (mc := 0) (ms := 0) (As := [_, _]) d_Mod_select_57 cw_Mod_say2 q_612 q_614 qs_Mod_say2 (ci := 6) rfl (pP_24 hB.1) rfl rfl (mRoomB rfl) ?_
      refine s_Mod_say2 hB (sg := 1) (r := []) (fun j hj => by cases hj) (by decide) (fun f1 g1 => ?_)
      refine mj_aload_n d_Mod_select_60 rfl ?_
      refine mj_sipush d_Mod_select_61 (nI 132) (by decide) ?_
      refine mj_bipush d_Mod_select_64 (nI 7) (by decide) ?_
      refine mj_virtual (d' := (1, 21)) (mc := 0) (ms := 0) (As := [_, _]) d_Mod_select_66 cw_Mod_say2 q_612 q_614 qs_Mod_say2 (ci := 6) rfl (pP_24 hB.1) rfl rfl (mRoomB rfl) ?_
      refine s_Mod_say2 hB g1 (by simp) (fun f2 g2 => ?_)
      refine mj_iconst d_Mod_select_69 (nI 0) (by decide) ?_
      refine mj_istore_n d_Mod_select_70 (by decide) ?_
      dsimp only [mSt1, mSt2, mKill, Nat.reduceAdd]
      exact ln_select hB hnm hml hmb (fun f hf => kT ⟨by omega, fun j hj => hall j (by omega)⟩ f hf) 7 0 f2 (by omega) g2
    · omega
  | succ m ih =>
    intro i hi h7 hall
    refine mj_iload_n d_Mod_select_9 rfl ?_
    refine mj_iload_n d_Mod_select_10 rfl ?_
    refine mj_icmpgeN d_Mod_select_11 47 rfl (by omega) (fun c_11 => ?_) (fun c_11 => ?_)
    · omega
    · refine mj_iload_n d_Mod_select_14 rfl ?_
      refine mj_bipush d_Mod_select_15 (nI 6) (by decide) ?_
      refine mj_icmpgtN d_Mod_select_17 37 rfl (by omega) (fun c_17 => ?_) (fun c_17 => ?_)
      · refine mj_sipush d_Mod_select_37 (nI 27266) (by decide) ?_
        refine mj_iret d_Mod_select_40 rfl rfl (Nat.le_refl _) (Nat.le_refl _) ?_
        first
          | exact kF (fun z => by have := z.1; omega)
          | exact kF (fun z => c_34 (z.2 i (by omega)))
      · refine mj_aload_n d_Mod_select_20 rfl ?_
        refine mj_get d_Mod_select_21 fd_Mod_32 (pP_24 hB.1) rfl ?_
        refine mj_iconst d_Mod_select_24 (nI 5) (by decide) ?_
        refine mj_iload_n d_Mod_select_25 rfl ?_
        refine mj_iadd d_Mod_select_26 ?_
        rw [nI_add]
        refine mj_ialdN d_Mod_select_27 (pP_31 hB.2.1) (by omega) ?_
        rw [ht _ (by omega)]
        refine mj_aload_n d_Mod_select_28 rfl ?_
        refine mj_get d_Mod_select_29 fd_Mod_16 (pP_24 hB.1) rfl ?_
        refine mj_iload_n d_Mod_select_32 rfl ?_
        refine mj_ialdN d_Mod_select_33 (pP_get hB.2.2.2.2.2.1 (by decide) (by decide) (by decide)) (by omega) ?_
        rw [hnm _ (by omega)]
        refine mj_icmpeqN d_Mod_select_34 41 rfl (by have := getD_lt hbt (5 + i); have := getD_lt hmb i; omega) (fun c_34 => ?_) (fun c_34 => ?_)
        · refine mj_iinc d_Mod_select_41 rfl (by decide) (nI (i + 1)) (nI_1 i) ?_
          dsimp only [mSt1, mSt2, mKill, Nat.reduceAdd]
          refine mj_goto d_Mod_select_44 9 rfl ?_
          refine ih (i + 1) (by omega) (by omega) (fun j hj => ?_)
          by_cases e : j = i
          · subst e; exact c_34
          · exact hall j (by omega)
        · refine mj_sipush d_Mod_select_37 (nI 27266) (by decide) ?_
          refine mj_iret d_Mod_select_40 rfl rfl (Nat.le_refl _) (Nat.le_refl _) ?_
          first
            | exact kF (fun z => by have := z.1; omega)
            | exact kF (fun z => c_34 (z.2 i (by omega)))
theorem s_Mod_select {L : Nat} {xs : Nat → Int32} {Post : Option Value → mHeap → Prop} {h : mHeap} {fkey fdig fnm frc frl frb fen fta frd fbl fmo fse fre fma fend : Nat → Int32} {cu tr an sg am pv : Nat} {t : List Nat} {fr fo : Nat → Int32} (hB : MB h fkey fdig fnm frc frl frb fen fta frd fbl fmo fse fre fma fend) {nm : List Nat} (hnm : Rf nm fnm) (hml : nm.length = 7) (hmb : Bb nm) (ht : Rf t fr) (hbt : Bb t) (htl : t.length ≤ 40) (hd : datN t + 5 = t.length) (kF : ¬ preOk t nm → Post (some (.int (nI 27266))) (pP h (cMod cu tr an sg am pv (t).length (([] : List Nat)).length) fr fo)) (kT : preOk t nm → ∀ f, Rf (selR nm) f → Post (some (.int (nI 36864))) (pP h (cMod cu tr an 1 am pv (t).length (selR nm).length) fr f)) : mMet M_Mod_select L xs (2, 43) 0 0 [.ref 24] (pP h (cMod cu tr an sg am pv (t).length (([] : List Nat)).length) fr fo) Post := by
  refine mMet_of rfl (Nat.le_of_ble_eq_true rfl) ?_
  refine mj_aload_n d_Mod_select_0 rfl ?_
  refine mj_get d_Mod_select_1 fd_Mod_97 (pP_24 hB.1) rfl ?_
  refine mj_iconst d_Mod_select_4 (nI 5) (by decide) ?_
  refine mj_isub d_Mod_select_5 ?_
  rw [pk_sub (by omega), show t.length - 5 = datN t by omega]
  refine mj_istore_n d_Mod_select_6 (by decide) ?_
  dsimp only [mSt1, mSt2, mKill, Nat.reduceAdd]
  refine mj_iconst d_Mod_select_7 (nI 0) (by decide) ?_
  refine mj_istore_n d_Mod_select_8 (by decide) ?_
  dsimp only [mSt1, mSt2, mKill, Nat.reduceAdd]
  exact lc_select hB hnm hml hmb ht hbt htl hd kF kT (datN t) 0 (by omega) (by omega) (fun j hj => by omega)
/-- how many files from f on (n of them) have records -/
def filN (cnt : Nat → Nat) : Nat → Nat → Nat
  | _, 0 => 0
  | f, n + 1 => (if 0 < cnt f then 1 else 0) + filN cnt (f + 1) n
theorem entR_fil (cnt : Nat → Nat) : ∀ (n f : Nat), (entR cnt f n).length = 4 * filN cnt f n
  | 0, _ => rfl
  | n + 1, f => by
    rw [entR, filN, List.length_append, entR_fil cnt n (f + 1)]
    split <;> simp <;> omega
theorem filN_le (cnt : Nat → Nat) : ∀ (n f : Nat), filN cnt f n ≤ n
  | 0, _ => Nat.le_refl _
  | n + 1, f => by
    have := filN_le cnt n (f + 1)
    rw [filN]
    split <;> omega
theorem le_ready {L : Nat} {xs : Nat → Int32} {Post : Option Value → mHeap → Prop} {h : mHeap} {fkey fdig fnm frc frl frb fen fta frd fbl fmo fse fre fma fend : Nat → Int32} {cu tr an sg am pv : Nat} {t : List Nat} {fr : Nat → Int32} (hB : MB h fkey fdig fnm frc frl frb fen fta frd fbl fmo fse fre fma fend) {cnt : Nat → Nat} {rc : Nat → List Nat} (hF : FR cnt rc frb frl frc) {fl : Nat} (kk : ∀ f, Rf (rdyR cnt) f → Post (some (.int (nI 36864))) (pP h (cMod cu tr an sg am pv (t).length (rdyR cnt).length) fr f)) : ∀ (m f : Nat) (l : List Nat) (gg : Nat → Int32), f + m = 4 → l.length ≤ 4 + 4 * f → Rf l gg → l ++ entR cnt f m = rdyR cnt → mGo M_Mod_ready L xs (2, 43) 0 0 Post 0 0 111 [some (.ref 24), some (.int (nI fl)), some (.int (nI f))] [] (pP h (cMod cu tr an sg am pv (t).length (l).length) fr gg) := by
  intro m
  induction m with
  | zero =>
    intro f l gg hf hl hg hall
    refine mj_iload_n d_Mod_ready_111 rfl ?_
    refine mj_iconst d_Mod_ready_112 (nI 4) (by decide) ?_
    refine mj_icmpgeN d_Mod_ready_113 154 rfl (by omega) (fun c_113 => ?_) (fun c_113 => ?_)
    · refine mj_ldc d_Mod_ready_154 (nI 36864) q_620 ?_
      refine mj_iret d_Mod_ready_156 rfl rfl (Nat.le_refl _) (Nat.le_refl _) ?_
      rw [entR, List.append_nil] at hall
      subst hall
      exact kk gg hg
    · omega
  | succ m ih =>
    intro f l gg hf hl hg hall
    have hc3 := hF.2.1 f (by omega)
    refine mj_iload_n d_Mod_ready_111 rfl ?_
    refine mj_iconst d_Mod_ready_112 (nI 4) (by decide) ?_
    refine mj_icmpgeN d_Mod_ready_113 154 rfl (by omega) (fun c_113 => ?_) (fun c_113 => ?_)
    · omega
    · refine mj_aload_n d_Mod_ready_116 rfl ?_
      refine mj_get d_Mod_ready_117 fd_Mod_19 (pP_24 hB.1) rfl ?_
      refine mj_iload_n d_Mod_ready_120 rfl ?_
      refine mj_ialdN d_Mod_ready_121 (pP_get hB.2.2.2.2.2.2.1 (by decide) (by decide) (by decide)) (by omega) ?_
      rw [hF.1 _ (by omega)]
      refine mj_ifleN d_Mod_ready_122 148 rfl (by omega) (fun c_122 => ?_) (fun c_122 => ?_)
      · refine mj_iinc d_Mod_ready_148 rfl (by decide) (nI (f + 1)) (nI_1 f) ?_
        dsimp only [mSt1, mSt2, mKill, Nat.reduceAdd]
        refine mj_goto d_Mod_ready_151 111 rfl ?_
        first
          | (refine ih (f + 1) _ f2 (by omega) (by simp; omega) g2 ?_
             rw [entR, if_pos (by omega)] at hall
             rw [← hall]; simp)
          | (refine ih (f + 1) l gg (by omega) (by omega) hg ?_
             rw [entR, if_neg (by omega)] at hall
             rw [← hall]; simp)
      · refine mj_aload_n d_Mod_ready_125 rfl ?_
        refine mj_bipush d_Mod_ready_126 (nI 8) (by decide) ?_
        refine mj_iload_n d_Mod_ready_128 rfl ?_
        refine mj_imul d_Mod_ready_129 ?_
        rw [pk_mul]
        refine mj_bipush d_Mod_ready_130 (nI 8) (by decide) ?_
        refine mj_iadd d_Mod_ready_132 ?_
        rw [nI_add, show 8 * f + 8 = 8 * (f + 1) by omega]
        refine mj_iconst d_Mod_ready_133 (nI 1) (by decide) ?_
        refine mj_virtual (d' := (1, 21)) (mc := 0) (ms := 0) (As := [_, _]) d_Mod_ready_134 cw_Mod_say2 q_612 q_614 qs_Mod_say2 (ci := 6) rfl (pP_24 hB.1) rfl rfl (mRoomB rfl) ?_
        refine s_Mod_say2 hB hg (by omega) (fun f1 g1 => ?_)
        refine mj_aload_n d_Mod_ready_137 rfl ?_
        refine mj_aload_n d_Mod_ready_138 rfl ?_
        refine mj_get d_Mod_ready_139 fd_Mod_19 (pP_24 hB.1) rfl ?_
        refine mj_iload_n d_Mod_ready_142 rfl ?_
        refine mj_ialdN d_Mod_ready_143 (pP_get hB.2.2.2.2.2.2.1 (by decide) (by decide) (by decide)) (by omega) ?_
        rw [hF.1 _ (by omega)]
        refine mj_iconst d_Mod_ready_144 (nI 0) (by decide) ?_
        refine mj_virtual (d' := (1, 21)) (mc := 0) (ms := 0) (As := [_, _]) d_Mod_ready_145 cw_Mod_say2 q_612 q_614 qs_Mod_say2 (ci := 6) rfl (pP_24 hB.1) rfl rfl (mRoomB rfl) ?_
        refine s_Mod_say2 hB g1 (by simp; omega) (fun f2 g2 => ?_)
        rw [List.append_assoc] at g2 ⊢
        refine mj_iinc d_Mod_ready_148 rfl (by decide) (nI (f + 1)) (nI_1 f) ?_
        dsimp only [mSt1, mSt2, mKill, Nat.reduceAdd]
        refine mj_goto d_Mod_ready_151 111 rfl ?_
        first
          | (refine ih (f + 1) _ f2 (by omega) (by simp; omega) g2 ?_
             rw [entR, if_pos (by omega)] at hall
             rw [← hall]; simp)
          | (refine ih (f + 1) l gg (by omega) (by omega) hg ?_
             rw [entR, if_neg (by omega)] at hall
             rw [← hall]; simp)
theorem lf_ready {L : Nat} {xs : Nat → Int32} {Post : Option Value → mHeap → Prop} {h : mHeap} {fkey fdig fnm frc frl frb fen fta frd fbl fmo fse fre fma fend : Nat → Int32} {cu tr an sg am pv : Nat} {t : List Nat} {fr fo : Nat → Int32} (hB : MB h fkey fdig fnm frc frl frb fen fta frd fbl fmo fse fre fma fend) {cnt : Nat → Nat} {rc : Nat → List Nat} (hF : FR cnt rc frb frl frc) (kk : ∀ f, Rf (rdyR cnt) f → Post (some (.int (nI 36864))) (pP h (cMod cu tr an sg am pv (t).length (rdyR cnt).length) fr f)) : ∀ (m f a : Nat), f + m = 4 → a ≤ f → a + filN cnt f m = filN cnt 0 4 → mGo M_Mod_ready L xs (2, 43) 0 0 Post 0 0 62 [some (.ref 24), some (.int (nI a)), some (.int (nI f))] [] (pP h (cMod cu tr an sg am pv (t).length (([] : List Nat)).length) fr fo) := by
  intro m
  induction m with
  | zero =>
    intro f a hf ha hall
    refine mj_iload_n d_Mod_ready_62 rfl ?_
    refine mj_iconst d_Mod_ready_63 (nI 4) (by decide) ?_
    refine mj_icmpgeN d_Mod_ready_64 90 rfl (by omega) (fun c_64 => ?_) (fun c_64 => ?_)
    · refine mj_aload_n d_Mod_ready_90 rfl ?_
      refine mj_sipush d_Mod_ready_91 (nI 128) (by decide) ?_
      refine mj_iconst d_Mod_ready_94 (nI 2) (by decide) ?_
      refine mj_iconst d_Mod_ready_95 (nI 4) (by decide) ?_
      refine mj_iload_n d_Mod_ready_96 rfl ?_
      refine mj_imul d_Mod_ready_97 ?_
      rw [pk_mul]
      refine mj_iadd d_Mod_ready_98 ?_
      rw [nI_add]
      refine mj_virtual (d' := (1, 21)) (mc := 0) (ms := 0) (As := [_, _]) d_Mod_ready_99 cw_Mod_say2 q_612 q_614 qs_Mod_say2 (ci := 6) rfl (pP_24 hB.1) rfl rfl (mRoomB rfl) ?_
      refine s_Mod_say2 hB (r := []) (fun j hj => by cases hj) (by decide) (fun f1 g1 => ?_)
      refine mj_aload_n d_Mod_ready_102 rfl ?_
      refine mj_bipush d_Mod_ready_103 (nI 24) (by decide) ?_
      refine mj_iconst d_Mod_ready_105 (nI 0) (by decide) ?_
      refine mj_virtual (d' := (1, 21)) (mc := 0) (ms := 0) (As := [_, _]) d_Mod_ready_106 cw_Mod_say2 q_612 q_614 qs_Mod_say2 (ci := 6) rfl (pP_24 hB.1) rfl rfl (mRoomB rfl) ?_
      refine s_Mod_say2 hB g1 (by simp) (fun f2 g2 => ?_)
      refine mj_iconst d_Mod_ready_109 (nI 0) (by decide) ?_
      refine mj_istore_n d_Mod_ready_110 (by decide) ?_
      dsimp only [mSt1, mSt2, mKill, Nat.reduceAdd]
      rw [filN, Nat.add_zero] at hall
      have e : [] ++ [128, 2 + 4 * a] ++ [24, 0] = [128, (entR cnt 0 4).length + 2, 24, 0] := by rw [entR_fil, ← hall, Nat.add_comm 2]; rfl
      rw [e] at g2 ⊢
      exact le_ready hB hF kk 4 0 _ f2 (by omega) (by simp) g2 rfl
    · omega
  | succ m ih =>
    intro f a hf ha hall
    have hc3 := hF.2.1 f (by omega)
    refine mj_iload_n d_Mod_ready_62 rfl ?_
    refine mj_iconst d_Mod_ready_63 (nI 4) (by decide) ?_
    refine mj_icmpgeN d_Mod_ready_64 90 rfl (by omega) (fun c_64 => ?_) (fun c_64 => ?_)
    · omega
    · refine mj_aload_n d_Mod_ready_67 rfl ?_
      refine mj_get d_Mod_ready_68 fd_Mod_19 (pP_24 hB.1) rfl ?_
      refine mj_iload_n d_Mod_ready_71 rfl ?_
      refine mj_ialdN d_Mod_ready_72 (pP_get hB.2.2.2.2.2.2.1 (by decide) (by decide) (by decide)) (by omega) ?_
      rw [hF.1 _ (by omega)]
      refine mj_ifleN d_Mod_ready_73 82 rfl (by omega) (fun c_73 => ?_) (fun c_73 => ?_)
      · refine mj_iload_n d_Mod_ready_82 rfl ?_
        refine mj_istore_n d_Mod_ready_83 (by decide) ?_
        dsimp only [mSt1, mSt2, mKill, Nat.reduceAdd]
        refine mj_iinc d_Mod_ready_84 rfl (by decide) (nI (f + 1)) (nI_1 f) ?_
        dsimp only [mSt1, mSt2, mKill, Nat.reduceAdd]
        refine mj_goto d_Mod_ready_87 62 rfl ?_
        first
          | (refine ih (f + 1) (a + 1) (by omega) (by omega) ?_
             rw [filN, if_pos (by omega)] at hall; omega)
          | (refine ih (f + 1) a (by omega) (by omega) ?_
             rw [filN, if_neg (by omega)] at hall; omega)
      · refine mj_iload_n d_Mod_ready_76 rfl ?_
        refine mj_iconst d_Mod_ready_77 (nI 1) (by decide) ?_
        refine mj_iadd d_Mod_ready_78 ?_
        rw [nI_add]
        refine mj_goto d_Mod_ready_79 83 rfl ?_
        refine mj_istore_n d_Mod_ready_83 (by decide) ?_
        dsimp only [mSt1, mSt2, mKill, Nat.reduceAdd]
        refine mj_iinc d_Mod_ready_84 rfl (by decide) (nI (f + 1)) (nI_1 f) ?_
        dsimp only [mSt1, mSt2, mKill, Nat.reduceAdd]
        refine mj_goto d_Mod_ready_87 62 rfl ?_
        first
          | (refine ih (f + 1) (a + 1) (by omega) (by omega) ?_
             rw [filN, if_pos (by omega)] at hall; omega)
          | (refine ih (f + 1) a (by omega) (by omega) ?_
             rw [filN, if_neg (by omega)] at hall; omega)
theorem s_Mod_ready {L : Nat} {xs : Nat → Int32} {Post : Option Value → mHeap → Prop} {h : mHeap} {fkey fdig fnm frc frl frb fen fta frd fbl fmo fse fre fma fend : Nat → Int32} {cu tr an sg am pv : Nat} {t : List Nat} {fr fo : Nat → Int32} (hB : MB h fkey fdig fnm frc frl frb fen fta frd fbl fmo fse fre fma fend) {cnt : Nat → Nat} {rc : Nat → List Nat} (hF : FR cnt rc frb frl frc) (ht : Rf t fr) (hbt : Bb t) (h13 : t.length = 13) (kF : ¬ (t.getD 5 0 = 131 ∧ t.getD 6 0 = 6) → Post (some (.int (nI 27264))) (pP h (cMod cu tr an sg am pv (t).length (([] : List Nat)).length) fr fo)) (kT : t.getD 5 0 = 131 ∧ t.getD 6 0 = 6 → ∀ f, Rf (rdyR cnt) f → Post (some (.int (nI 36864))) (pP h (cMod (cu + 1) tr an 2 (amtN t 7 6) 0 (t).length (rdyR cnt).length) fr f)) : mMet M_Mod_ready L xs (2, 43) 0 0 [.ref 24] (pP h (cMod cu tr an sg am pv (t).length (([] : List Nat)).length) fr fo) Post := by
  refine mMet_of rfl (Nat.le_of_ble_eq_true rfl) ?_
  have b5 := getD_lt hbt 5
  have b6 := getD_lt hbt 6
  refine mj_aload_n d_Mod_ready_0 rfl ?_
  refine mj_get d_Mod_ready_1 fd_Mod_32 (pP_24 hB.1) rfl ?_
  refine mj_iconst d_Mod_ready_4 (nI 5) (by decide) ?_
  refine mj_ialdN d_Mod_ready_5 (pP_31 hB.2.1) (by omega) ?_
  rw [ht _ (by omega)]
  refine mj_sipush d_Mod_ready_6 (nI 131) (by decide) ?_
  refine mj_icmpneN d_Mod_ready_9 24 rfl (by omega) (fun c_9 => ?_) (fun c_9 => ?_)
  · refine mj_sipush d_Mod_ready_24 (nI 27264) (by decide) ?_
    refine mj_iret d_Mod_ready_27 rfl rfl (Nat.le_refl _) (Nat.le_refl _) ?_
    exact kF (by omega)
  · refine mj_aload_n d_Mod_ready_12 rfl ?_
    refine mj_get d_Mod_ready_13 fd_Mod_32 (pP_24 hB.1) rfl ?_
    refine mj_bipush d_Mod_ready_16 (nI 6) (by decide) ?_
    refine mj_ialdN d_Mod_ready_18 (pP_31 hB.2.1) (by omega) ?_
    rw [ht _ (by omega)]
    refine mj_bipush d_Mod_ready_19 (nI 6) (by decide) ?_
    refine mj_icmpeqN d_Mod_ready_21 28 rfl (by omega) (fun c_21 => ?_) (fun c_21 => ?_)
    · refine mj_aload_n d_Mod_ready_28 rfl ?_
      refine mj_dup d_Mod_ready_29 rfl ?_
      refine mj_get d_Mod_ready_30 fd_Mod_112 (pP_24 hB.1) rfl ?_
      refine mj_iconst d_Mod_ready_33 (nI 1) (by decide) ?_
      refine mj_iadd d_Mod_ready_34 ?_
      rw [nI_add]
      refine mj_put d_Mod_ready_35 fd_Mod_112 ft_Mod_6 (pP_24 hB.1) (Nat.le_of_ble_eq_true rfl) rfl rfl ?_
      rw [pP_s24]
      dsimp only [List.set]
      refine mj_aload_n d_Mod_ready_38 rfl ?_
      refine mj_aload_n d_Mod_ready_39 rfl ?_
      refine mj_bipush d_Mod_ready_40 (nI 7) (by decide) ?_
      refine mj_virtual (d' := (0, 0)) (mc := 0) (ms := 0) (As := [_]) d_Mod_ready_42 cw_Mod_sixFrom q_625 q_627 qs_Mod_sixFrom (ci := 6) rfl (pP_24 hB.1) rfl rfl (mRoomB rfl) ?_
      refine s_Mod_sixFrom hB (cu := cu + 1) ht hbt (by omega) (by omega) ?_
      refine mj_put d_Mod_ready_45 fd_Mod_162 ft_Mod_10 (pP_24 hB.1) (Nat.le_of_ble_eq_true rfl) rfl rfl ?_
      rw [pP_s24]
      dsimp only [List.set]
      refine mj_aload_n d_Mod_ready_48 rfl ?_
      refine mj_iconst d_Mod_ready_49 (nI 0) (by decide) ?_
      refine mj_put d_Mod_ready_50 fd_Mod_166 ft_Mod_11 (pP_24 hB.1) (Nat.le_of_ble_eq_true rfl) rfl rfl ?_
      rw [pP_s24]
      dsimp only [List.set]
      refine mj_aload_n d_Mod_ready_53 rfl ?_
      refine mj_iconst d_Mod_ready_54 (nI 2) (by decide) ?_
      refine mj_put d_Mod_ready_55 fd_Mod_109 ft_Mod_9 (pP_24 hB.1) (Nat.le_of_ble_eq_true rfl) rfl rfl ?_
      rw [pP_s24]
      dsimp only [List.set]
      refine mj_iconst d_Mod_ready_58 (nI 0) (by decide) ?_
      refine mj_istore_n d_Mod_ready_59 (by decide) ?_
      dsimp only [mSt1, mSt2, mKill, Nat.reduceAdd]
      refine mj_iconst d_Mod_ready_60 (nI 0) (by decide) ?_
      refine mj_istore_n d_Mod_ready_61 (by decide) ?_
      dsimp only [mSt1, mSt2, mKill, Nat.reduceAdd]
      exact lf_ready hB hF (cu := cu + 1) (am := amtN t 7 6) (pv := 0) (sg := 2) (kT (by omega)) 4 0 0 (by omega) (by omega) (by omega)
    · refine mj_sipush d_Mod_ready_24 (nI 27264) (by decide) ?_
      refine mj_iret d_Mod_ready_27 rfl rfl (Nat.le_refl _) (Nat.le_refl _) ?_
      exact kF (by omega)
