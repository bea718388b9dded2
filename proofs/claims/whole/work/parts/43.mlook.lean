def pP (h : mHeap) (X : mCell) (fr fo : Nat → Int32) : mHeap := ((h.set 31 (cArr 40 fr)).set 32 (cArr 64 fo)).set 24 X
/-- the model's arrays that stay where they are -/
def MB (h : mHeap) (fkey fdig fnm frc frl frb fen fta frd fbl fmo fse fre fma fend : Nat → Int32) : Prop := (∃ x, h[24]? = some x) ∧ (∃ x, h[31]? = some x) ∧ (∃ x, h[32]? = some x) ∧ h[25]? = some (cArr 16 fkey) ∧ h[26]? = some (cArr 4 fdig) ∧ h[27]? = some (cArr 7 fnm) ∧ h[28]? = some (cArr 4 frc) ∧ h[29]? = some (cArr 12 frl) ∧ h[30]? = some (cArr 360 frb) ∧ h[33]? = some (cArr 16 fen) ∧ h[34]? = some (cArr 256 fta) ∧ h[35]? = some (cArr 176 frd) ∧ h[36]? = some (cArr 16 fbl) ∧ h[37]? = some (cArr 16 fmo) ∧ h[38]? = some (cArr 64 fse) ∧ h[39]? = some (cArr 16 fre) ∧ h[40]? = some (cArr 16 fma) ∧ h[41]? = some (cArr 40 fend)
theorem pP_24 {h : mHeap} {X : mCell} {fr fo : Nat → Int32} (hk : ∃ x, h[24]? = some x) : (pP h X fr fo)[24]? = some X := by
  obtain ⟨x, hk⟩ := hk
  exact gself (gne (y := cArr 64 fo) (gne (y := cArr 40 fr) hk (by decide)) (by decide))
theorem pP_31 {h : mHeap} {X : mCell} {fr fo : Nat → Int32} (hk : ∃ x, h[31]? = some x) : (pP h X fr fo)[31]? = some (cArr 40 fr) := by
  obtain ⟨x, hk⟩ := hk
  exact gne (gne (gself hk) (by decide)) (by decide)
theorem pP_32 {h : mHeap} {X : mCell} {fr fo : Nat → Int32} (hk : ∃ x, h[32]? = some x) : (pP h X fr fo)[32]? = some (cArr 64 fo) := by
  obtain ⟨x, hk⟩ := hk
  exact gne (gself (gne (y := cArr 40 fr) hk (by decide))) (by decide)
theorem pP_get {h : mHeap} {X : mCell} {fr fo : Nat → Int32} {k : Nat} {x : mCell} (hk : h[k]? = some x) (h1 : 24 ≠ k) (h2 : 31 ≠ k) (h3 : 32 ≠ k) : (pP h X fr fo)[k]? = some x := gne (gne (gne hk h2) h3) h1
theorem pP_s24 {h : mHeap} {X Y : mCell} {fr fo : Nat → Int32} : (pP h X fr fo).set 24 Y = pP h Y fr fo := by unfold pP; rw [List.set_set]
theorem pP_s31 {h : mHeap} {X : mCell} {fr fo g : Nat → Int32} : (pP h X fr fo).set 31 (cArr 40 g) = pP h X g fo := by
  unfold pP
  rw [List.set_comm _ _ (show (24 : Nat) ≠ 31 by decide), List.set_comm _ _ (show (32 : Nat) ≠ 31 by decide), List.set_set]
theorem pP_s32 {h : mHeap} {X : mCell} {fr fo g : Nat → Int32} : (pP h X fr fo).set 32 (cArr 64 g) = pP h X fr g := by
  unfold pP
  rw [List.set_comm _ _ (show (24 : Nat) ≠ 32 by decide), List.set_set]
theorem s_Mod_say {L : Nat} {xs : Nat → Int32} {Post : Option Value → mHeap → Prop} {h : mHeap} {fkey fdig fnm frc frl frb fen fta frd fbl fmo fse fre fma fend : Nat → Int32} {cu tr an sg am pv : Nat} {t r : List Nat} {fr fo : Nat → Int32} (hB : MB h fkey fdig fnm frc frl frb fen fta frd fbl fmo fse fre fma fend) {b : Nat} (hr : Rf r fo) (hrl : r.length < 64) (kk : ∀ fo', Rf (r ++ [b]) fo' → Post none (pP h (cMod cu tr an sg am pv (t).length (r ++ [b]).length) fr fo')) : mMet M_Mod_say L xs (0, 0) 0 0 [.ref 24, .int (nI b)] (pP h (cMod cu tr an sg am pv (t).length (r).length) fr fo) Post := by
  refine mMet_of rfl (Nat.le_of_ble_eq_true rfl) ?_
  refine mj_aload_n d_Mod_say_0 rfl ?_
  refine mj_get d_Mod_say_1 fd_Mod_35 (pP_24 hB.1) rfl ?_
  refine mj_aload_n d_Mod_say_4 rfl ?_
  refine mj_get d_Mod_say_5 fd_Mod_100 (pP_24 hB.1) rfl ?_
  refine mj_iload_n d_Mod_say_8 rfl ?_
  refine mj_iastN d_Mod_say_9 (pP_32 hB.2.2.1) (by omega) ?_
  rw [pP_s32]
  refine mj_aload_n d_Mod_say_10 rfl ?_
  refine mj_dup d_Mod_say_11 rfl ?_
  refine mj_get d_Mod_say_12 fd_Mod_100 (pP_24 hB.1) rfl ?_
  refine mj_iconst d_Mod_say_15 (nI 1) (by decide) ?_
  refine mj_iadd d_Mod_say_16 ?_
  rw [nI_add]
  refine mj_put d_Mod_say_17 fd_Mod_100 ft_Mod_14 (pP_24 hB.1) (Nat.le_of_ble_eq_true rfl) rfl rfl ?_
  rw [pP_s24]
  dsimp only [List.set]
  refine mj_vret d_Mod_say_20 rfl (Nat.le_refl _) (Nat.le_refl _) ?_
  have e := kk _ (Rf_add (b := b) hr)
  rw [show (r ++ [b]).length = r.length + 1 by simp] at e
  exact e
theorem s_Mod_say2 {L : Nat} {xs : Nat → Int32} {Post : Option Value → mHeap → Prop} {h : mHeap} {fkey fdig fnm frc frl frb fen fta frd fbl fmo fse fre fma fend : Nat → Int32} {cu tr an sg am pv : Nat} {t r : List Nat} {fr fo : Nat → Int32} (hB : MB h fkey fdig fnm frc frl frb fen fta frd fbl fmo fse fre fma fend) {a b : Nat} (hr : Rf r fo) (hrl : r.length + 1 < 64) (kk : ∀ fo', Rf (r ++ [a, b]) fo' → Post none (pP h (cMod cu tr an sg am pv (t).length (r ++ [a, b]).length) fr fo')) : mMet M_Mod_say2 L xs (1, 21) 0 0 [.ref 24, .int (nI a), .int (nI b)] (pP h (cMod cu tr an sg am pv (t).length (r).length) fr fo) Post := by
  refine mMet_of rfl (Nat.le_of_ble_eq_true rfl) ?_
  refine mj_aload_n d_Mod_say2_0 rfl ?_
  refine mj_iload_n d_Mod_say2_1 rfl ?_
  refine mj_virtual (d' := (0, 0)) (mc := 0) (ms := 0) (As := [_]) d_Mod_say2_2 cw_Mod_say q_616 q_618 qs_Mod_say (ci := 6) rfl (pP_24 hB.1) rfl rfl (mRoomB rfl) ?_
  refine s_Mod_say hB hr (by omega) (fun f1 h1 => ?_)
  refine mj_aload_n d_Mod_say2_5 rfl ?_
  refine mj_iload_n d_Mod_say2_6 rfl ?_
  refine mj_virtual (d' := (0, 0)) (mc := 0) (ms := 0) (As := [_]) d_Mod_say2_7 cw_Mod_say q_616 q_618 qs_Mod_say (ci := 6) rfl (pP_24 hB.1) rfl rfl (mRoomB rfl) ?_
  refine s_Mod_say hB h1 (by simp; omega) (fun f2 h2 => ?_)
  rw [List.append_assoc] at h2 ⊢
  refine mj_vret d_Mod_say2_10 rfl (Nat.le_refl _) (Nat.le_refl _) ?_
  exact kk f2 h2
theorem s_Mod_type {L : Nat} {xs : Nat → Int32} {Post : Option Value → mHeap → Prop} {h : mHeap} {fkey fdig fnm frc frl frb fen fta frd fbl fmo fse fre fma fend : Nat → Int32} {cu tr an sg am pv : Nat} {t r : List Nat} {fr fo : Nat → Int32} (hB : MB h fkey fdig fnm frc frl frb fen fta frd fbl fmo fse fre fma fend) {b : Nat} (ht : Rf t fr) (htl : t.length < 40) (kk : ∀ fr', Rf (t ++ [b]) fr' → Post none (pP h (cMod cu tr an sg am pv (t ++ [b]).length (r).length) fr' fo)) : mMet M_Mod_type L xs (0, 0) 0 0 [.ref 24, .int (nI b)] (pP h (cMod cu tr an sg am pv (t).length (r).length) fr fo) Post := by
  refine mMet_of rfl (Nat.le_of_ble_eq_true rfl) ?_
  refine mj_aload_n d_Mod_type_0 rfl ?_
  refine mj_get d_Mod_type_1 fd_Mod_32 (pP_24 hB.1) rfl ?_
  refine mj_aload_n d_Mod_type_4 rfl ?_
  refine mj_get d_Mod_type_5 fd_Mod_97 (pP_24 hB.1) rfl ?_
  refine mj_iload_n d_Mod_type_8 rfl ?_
  refine mj_iastN d_Mod_type_9 (pP_31 hB.2.1) (by omega) ?_
  rw [pP_s31]
  refine mj_aload_n d_Mod_type_10 rfl ?_
  refine mj_dup d_Mod_type_11 rfl ?_
  refine mj_get d_Mod_type_12 fd_Mod_97 (pP_24 hB.1) rfl ?_
  refine mj_iconst d_Mod_type_15 (nI 1) (by decide) ?_
  refine mj_iadd d_Mod_type_16 ?_
  rw [nI_add]
  refine mj_put d_Mod_type_17 fd_Mod_97 ft_Mod_12 (pP_24 hB.1) (Nat.le_of_ble_eq_true rfl) rfl rfl ?_
  rw [pP_s24]
  dsimp only [List.set]
  refine mj_vret d_Mod_type_20 rfl (Nat.le_refl _) (Nat.le_refl _) ?_
  have e := kk _ (Rf_add (b := b) ht)
  rw [show (t ++ [b]).length = t.length + 1 by simp] at e
  exact e
theorem cm_def (i : Nat) : cmN i = if i = 164 then 1 else if i = 32936 then 2 else if i = 178 then 3 else if i = 32 then 4 else if i = 32970 then 5 else if i = 32942 then 6 else 0 := rfl
theorem s_Mod_command {L : Nat} {xs : Nat → Int32} {Post : Option Value → mHeap → Prop} {h : mHeap} {fkey fdig fnm frc frl frb fen fta frd fbl fmo fse fre fma fend : Nat → Int32} {cu tr an sg am pv : Nat} {t r : List Nat} {fr fo : Nat → Int32} (hB : MB h fkey fdig fnm frc frl frb fen fta frd fbl fmo fse fre fma fend) (ht : Rf t fr) (hr : Rf r fo) (htl : t.length ≤ 40) (hbt : Bb t) (h4 : 4 ≤ t.length) (kk : Post (some (.int (nI (cmN (insN t))))) (pP h (cMod cu tr an sg am pv (t).length (r).length) fr fo)) : mMet M_Mod_command L xs (0, 0) 0 0 [.ref 24] (pP h (cMod cu tr an sg am pv (t).length (r).length) fr fo) Post := by
  refine mMet_of rfl (Nat.le_of_ble_eq_true rfl) ?_
  have b0 := getD_lt hbt 0
  have b1 := getD_lt hbt 1
  refine mj_sipush d_Mod_command_0 (nI 256) (by decide) ?_
  refine mj_aload_n d_Mod_command_3 rfl ?_
  refine mj_get d_Mod_command_4 fd_Mod_32 (pP_24 hB.1) rfl ?_
  refine mj_iconst d_Mod_command_7 (nI 0) (by decide) ?_
  refine mj_ialdN d_Mod_command_8 (pP_31 hB.2.1) (by omega) ?_
  rw [ht _ (by omega)]
  refine mj_imul d_Mod_command_9 ?_
  rw [pk_mul]
  refine mj_aload_n d_Mod_command_10 rfl ?_
  refine mj_get d_Mod_command_11 fd_Mod_32 (pP_24 hB.1) rfl ?_
  refine mj_iconst d_Mod_command_14 (nI 1) (by decide) ?_
  refine mj_ialdN d_Mod_command_15 (pP_31 hB.2.1) (by omega) ?_
  rw [ht _ (by omega)]
  refine mj_iadd d_Mod_command_16 ?_
  rw [nI_add]
  have hin : 256 * t.getD 0 0 + t.getD 1 0 = insN t := rfl
  have hlt := insN_lt hbt
  rw [hin]
  generalize insN t = i at *
  refine mj_istore_n d_Mod_command_17 (by decide) ?_
  dsimp only [mSt1, mSt2, mKill, Nat.reduceAdd]
  refine mj_iload_n d_Mod_command_18 rfl ?_
  refine mj_sipush d_Mod_command_19 (nI 164) (by decide) ?_
  refine mj_icmpneN d_Mod_command_22 29 rfl (by omega) (fun c_22 => ?_) (fun c_22 => ?_)
  · refine mj_iload_n d_Mod_command_29 rfl ?_
    refine mj_ldc d_Mod_command_30 (nI 32936) q_592 ?_
    refine mj_icmpneN d_Mod_command_32 39 rfl (by omega) (fun c_32 => ?_) (fun c_32 => ?_)
    · refine mj_iload_n d_Mod_command_39 rfl ?_
      refine mj_sipush d_Mod_command_40 (nI 178) (by decide) ?_
      refine mj_icmpneN d_Mod_command_43 50 rfl (by omega) (fun c_43 => ?_) (fun c_43 => ?_)
      · refine mj_iload_n d_Mod_command_50 rfl ?_
        refine mj_bipush d_Mod_command_51 (nI 32) (by decide) ?_
        refine mj_icmpneN d_Mod_command_53 60 rfl (by omega) (fun c_53 => ?_) (fun c_53 => ?_)
        · refine mj_iload_n d_Mod_command_60 rfl ?_
          refine mj_ldc d_Mod_command_61 (nI 32970) q_593 ?_
          refine mj_icmpneN d_Mod_command_63 70 rfl (by omega) (fun c_63 => ?_) (fun c_63 => ?_)
          · refine mj_iload_n d_Mod_command_70 rfl ?_
            refine mj_ldc d_Mod_command_71 (nI 32942) q_594 ?_
            refine mj_icmpneN d_Mod_command_73 81 rfl (by omega) (fun c_73 => ?_) (fun c_73 => ?_)
            · refine mj_iconst d_Mod_command_81 (nI 0) (by decide) ?_
              refine mj_iret d_Mod_command_82 rfl rfl (Nat.le_refl _) (Nat.le_refl _) ?_
              rw [cm_def] at kk
              first
                | (rw [if_pos c_22] at kk; exact kk)
                | (rw [if_neg c_22, if_pos c_32] at kk; exact kk)
                | (rw [if_neg c_22, if_neg c_32, if_pos c_43] at kk; exact kk)
                | (rw [if_neg c_22, if_neg c_32, if_neg c_43, if_pos c_53] at kk; exact kk)
                | (rw [if_neg c_22, if_neg c_32, if_neg c_43, if_neg c_53, if_pos c_63] at kk; exact kk)
                | (rw [if_neg c_22, if_neg c_32, if_neg c_43, if_neg c_53, if_neg c_63, if_pos c_73] at kk; exact kk)
                | (rw [if_neg c_22, if_neg c_32, if_neg c_43, if_neg c_53, if_neg c_63, if_neg c_73] at kk; exact kk)
            · refine mj_bipush d_Mod_command_76 (nI 6) (by decide) ?_
              refine mj_goto d_Mod_command_78 82 rfl ?_
              refine mj_iret d_Mod_command_82 rfl rfl (Nat.le_refl _) (Nat.le_refl _) ?_
              rw [cm_def] at kk
              first
                | (rw [if_pos c_22] at kk; exact kk)
                | (rw [if_neg c_22, if_pos c_32] at kk; exact kk)
                | (rw [if_neg c_22, if_neg c_32, if_pos c_43] at kk; exact kk)
                | (rw [if_neg c_22, if_neg c_32, if_neg c_43, if_pos c_53] at kk; exact kk)
                | (rw [if_neg c_22, if_neg c_32, if_neg c_43, if_neg c_53, if_pos c_63] at kk; exact kk)
                | (rw [if_neg c_22, if_neg c_32, if_neg c_43, if_neg c_53, if_neg c_63, if_pos c_73] at kk; exact kk)
                | (rw [if_neg c_22, if_neg c_32, if_neg c_43, if_neg c_53, if_neg c_63, if_neg c_73] at kk; exact kk)
          · refine mj_iconst d_Mod_command_66 (nI 5) (by decide) ?_
            refine mj_goto d_Mod_command_67 82 rfl ?_
            refine mj_iret d_Mod_command_82 rfl rfl (Nat.le_refl _) (Nat.le_refl _) ?_
            rw [cm_def] at kk
            first
              | (rw [if_pos c_22] at kk; exact kk)
              | (rw [if_neg c_22, if_pos c_32] at kk; exact kk)
              | (rw [if_neg c_22, if_neg c_32, if_pos c_43] at kk; exact kk)
              | (rw [if_neg c_22, if_neg c_32, if_neg c_43, if_pos c_53] at kk; exact kk)
              | (rw [if_neg c_22, if_neg c_32, if_neg c_43, if_neg c_53, if_pos c_63] at kk; exact kk)
              | (rw [if_neg c_22, if_neg c_32, if_neg c_43, if_neg c_53, if_neg c_63, if_pos c_73] at kk; exact kk)
              | (rw [if_neg c_22, if_neg c_32, if_neg c_43, if_neg c_53, if_neg c_63, if_neg c_73] at kk; exact kk)
        · refine mj_iconst d_Mod_command_56 (nI 4) (by decide) ?_
          refine mj_goto d_Mod_command_57 82 rfl ?_
          refine mj_iret d_Mod_command_82 rfl rfl (Nat.le_refl _) (Nat.le_refl _) ?_
          rw [cm_def] at kk
          first
            | (rw [if_pos c_22] at kk; exact kk)
            | (rw [if_neg c_22, if_pos c_32] at kk; exact kk)
            | (rw [if_neg c_22, if_neg c_32, if_pos c_43] at kk; exact kk)
            | (rw [if_neg c_22, if_neg c_32, if_neg c_43, if_pos c_53] at kk; exact kk)
            | (rw [if_neg c_22, if_neg c_32, if_neg c_43, if_neg c_53, if_pos c_63] at kk; exact kk)
            | (rw [if_neg c_22, if_neg c_32, if_neg c_43, if_neg c_53, if_neg c_63, if_pos c_73] at kk; exact kk)
            | (rw [if_neg c_22, if_neg c_32, if_neg c_43, if_neg c_53, if_neg c_63, if_neg c_73] at kk; exact kk)
      · refine mj_iconst d_Mod_command_46 (nI 3) (by decide) ?_
        refine mj_goto d_Mod_command_47 82 rfl ?_
        refine mj_iret d_Mod_command_82 rfl rfl (Nat.le_refl _) (Nat.le_refl _) ?_
        rw [cm_def] at kk
        first
          | (rw [if_pos c_22] at kk; exact kk)
          | (rw [if_neg c_22, if_pos c_32] at kk; exact kk)
          | (rw [if_neg c_22, if_neg c_32, if_pos c_43] at kk; exact kk)
          | (rw [if_neg c_22, if_neg c_32, if_neg c_43, if_pos c_53] at kk; exact kk)
          | (rw [if_neg c_22, if_neg c_32, if_neg c_43, if_neg c_53, if_pos c_63] at kk; exact kk)
          | (rw [if_neg c_22, if_neg c_32, if_neg c_43, if_neg c_53, if_neg c_63, if_pos c_73] at kk; exact kk)
          | (rw [if_neg c_22, if_neg c_32, if_neg c_43, if_neg c_53, if_neg c_63, if_neg c_73] at kk; exact kk)
    · refine mj_iconst d_Mod_command_35 (nI 2) (by decide) ?_
      refine mj_goto d_Mod_command_36 82 rfl ?_
      refine mj_iret d_Mod_command_82 rfl rfl (Nat.le_refl _) (Nat.le_refl _) ?_
      rw [cm_def] at kk
      first
        | (rw [if_pos c_22] at kk; exact kk)
        | (rw [if_neg c_22, if_pos c_32] at kk; exact kk)
        | (rw [if_neg c_22, if_neg c_32, if_pos c_43] at kk; exact kk)
        | (rw [if_neg c_22, if_neg c_32, if_neg c_43, if_pos c_53] at kk; exact kk)
        | (rw [if_neg c_22, if_neg c_32, if_neg c_43, if_neg c_53, if_pos c_63] at kk; exact kk)
        | (rw [if_neg c_22, if_neg c_32, if_neg c_43, if_neg c_53, if_neg c_63, if_pos c_73] at kk; exact kk)
        | (rw [if_neg c_22, if_neg c_32, if_neg c_43, if_neg c_53, if_neg c_63, if_neg c_73] at kk; exact kk)
  · refine mj_iconst d_Mod_command_25 (nI 1) (by decide) ?_
    refine mj_goto d_Mod_command_26 82 rfl ?_
    refine mj_iret d_Mod_command_82 rfl rfl (Nat.le_refl _) (Nat.le_refl _) ?_
    rw [cm_def] at kk
    first
      | (rw [if_pos c_22] at kk; exact kk)
      | (rw [if_neg c_22, if_pos c_32] at kk; exact kk)
      | (rw [if_neg c_22, if_neg c_32, if_pos c_43] at kk; exact kk)
      | (rw [if_neg c_22, if_neg c_32, if_neg c_43, if_pos c_53] at kk; exact kk)
      | (rw [if_neg c_22, if_neg c_32, if_neg c_43, if_neg c_53, if_pos c_63] at kk; exact kk)
      | (rw [if_neg c_22, if_neg c_32, if_neg c_43, if_neg c_53, if_neg c_63, if_pos c_73] at kk; exact kk)
      | (rw [if_neg c_22, if_neg c_32, if_neg c_43, if_neg c_53, if_neg c_63, if_neg c_73] at kk; exact kk)
theorem s_Mod_parametersFit {L : Nat} {xs : Nat → Int32} {Post : Option Value → mHeap → Prop} {h : mHeap} {fkey fdig fnm frc frl frb fen fta frd fbl fmo fse fre fma fend : Nat → Int32} {cu tr an sg am pv : Nat} {t r : List Nat} {fr fo : Nat → Int32} (hB : MB h fkey fdig fnm frc frl frb fen fta frd fbl fmo fse fre fma fend) {c : Nat} (hc : c = 1 ∨ c = 2 ∨ c = 3 ∨ c = 4 ∨ c = 5 ∨ c = 6) (ht : Rf t fr) (hr : Rf r fo) (htl : t.length ≤ 40) (hbt : Bb t) (h4 : 4 ≤ t.length) (kk : Post (some (.int (nI (if parOk c (t.getD 2 0) (t.getD 3 0) then 1 else 0)))) (pP h (cMod cu tr an sg am pv (t).length (r).length) fr fo)) : mMet M_Mod_parametersFit L xs (0, 0) 0 0 [.ref 24, .int (nI c)] (pP h (cMod cu tr an sg am pv (t).length (r).length) fr fo) Post := by
  refine mMet_of rfl (Nat.le_of_ble_eq_true rfl) ?_
  have b2 := getD_lt hbt 2
  have b3 := getD_lt hbt 3
  refine mj_aload_n d_Mod_parametersFit_0 rfl ?_
  refine mj_get d_Mod_parametersFit_1 fd_Mod_32 (pP_24 hB.1) rfl ?_
  refine mj_iconst d_Mod_parametersFit_4 (nI 2) (by decide) ?_
  refine mj_ialdN d_Mod_parametersFit_5 (pP_31 hB.2.1) (by omega) ?_
  rw [ht _ (by omega)]
  refine mj_istore_n d_Mod_parametersFit_6 (by decide) ?_
  dsimp only [mSt1, mSt2, mKill, Nat.reduceAdd]
  refine mj_aload_n d_Mod_parametersFit_7 rfl ?_
  refine mj_get d_Mod_parametersFit_8 fd_Mod_32 (pP_24 hB.1) rfl ?_
  refine mj_iconst d_Mod_parametersFit_11 (nI 3) (by decide) ?_
  refine mj_ialdN d_Mod_parametersFit_12 (pP_31 hB.2.1) (by omega) ?_
  rw [ht _ (by omega)]
  refine mj_istore_n d_Mod_parametersFit_13 (by decide) ?_
  dsimp only [mSt1, mSt2, mKill, Nat.reduceAdd]
  refine mj_iload_n d_Mod_parametersFit_14 rfl ?_
  rcases hc with rfl | rfl | rfl | rfl | rfl | rfl
  · refine mj_tableIn d_Mod_parametersFit_15 (by decide) (by decide) (off := 33) (by decide) 48 rfl ?_
    refine mj_iload_n d_Mod_parametersFit_48 rfl ?_
    refine mj_iconst d_Mod_parametersFit_49 (nI 4) (by decide) ?_
    refine mj_icmpneN d_Mod_parametersFit_50 61 rfl (by omega) (fun c_50 => ?_) (fun c_50 => ?_)
    · refine mj_iconst d_Mod_parametersFit_61 (nI 0) (by decide) ?_
      refine mj_iret d_Mod_parametersFit_62 rfl (by decide) (Nat.le_refl _) (Nat.le_refl _) ?_
      first
        | (rw [if1 (by omega)] at kk; exact kk)
        | (rw [if0 (by omega)] at kk; exact kk)
    · refine mj_iload_n d_Mod_parametersFit_53 rfl ?_
      refine mj_ifneN d_Mod_parametersFit_54 61 rfl (by omega) (fun c_54 => ?_) (fun c_54 => ?_)
      · refine mj_iconst d_Mod_parametersFit_61 (nI 0) (by decide) ?_
        refine mj_iret d_Mod_parametersFit_62 rfl (by decide) (Nat.le_refl _) (Nat.le_refl _) ?_
        first
          | (rw [if1 (by omega)] at kk; exact kk)
          | (rw [if0 (by omega)] at kk; exact kk)
      · refine mj_iconst d_Mod_parametersFit_57 (nI 1) (by decide) ?_
        refine mj_goto d_Mod_parametersFit_58 62 rfl ?_
        refine mj_iret d_Mod_parametersFit_62 rfl (by decide) (Nat.le_refl _) (Nat.le_refl _) ?_
        first
          | (rw [if1 (by omega)] at kk; exact kk)
          | (rw [if0 (by omega)] at kk; exact kk)
  · refine mj_tableIn d_Mod_parametersFit_15 (by decide) (by decide) (off := 48) (by decide) 63 rfl ?_
    refine mj_iload_n d_Mod_parametersFit_63 rfl ?_
    refine mj_ifneN d_Mod_parametersFit_64 75 rfl (by omega) (fun c_64 => ?_) (fun c_64 => ?_)
    · refine mj_iconst d_Mod_parametersFit_75 (nI 0) (by decide) ?_
      refine mj_iret d_Mod_parametersFit_76 rfl (by decide) (Nat.le_refl _) (Nat.le_refl _) ?_
      first
        | (rw [if1 (by omega)] at kk; exact kk)
        | (rw [if0 (by omega)] at kk; exact kk)
    · refine mj_iload_n d_Mod_parametersFit_67 rfl ?_
      refine mj_ifneN d_Mod_parametersFit_68 75 rfl (by omega) (fun c_68 => ?_) (fun c_68 => ?_)
      · refine mj_iconst d_Mod_parametersFit_75 (nI 0) (by decide) ?_
        refine mj_iret d_Mod_parametersFit_76 rfl (by decide) (Nat.le_refl _) (Nat.le_refl _) ?_
        first
          | (rw [if1 (by omega)] at kk; exact kk)
          | (rw [if0 (by omega)] at kk; exact kk)
      · refine mj_iconst d_Mod_parametersFit_71 (nI 1) (by decide) ?_
        refine mj_goto d_Mod_parametersFit_72 76 rfl ?_
        refine mj_iret d_Mod_parametersFit_76 rfl (by decide) (Nat.le_refl _) (Nat.le_refl _) ?_
        first
          | (rw [if1 (by omega)] at kk; exact kk)
          | (rw [if0 (by omega)] at kk; exact kk)
  · refine mj_tableIn d_Mod_parametersFit_15 (by decide) (by decide) (off := 62) (by decide) 77 rfl ?_
    refine mj_iload_n d_Mod_parametersFit_77 rfl ?_
    refine mj_bipush d_Mod_parametersFit_78 (nI 8) (by decide) ?_
    refine mj_irem d_Mod_parametersFit_80 (by decide) ?_
    rw [pk_rem (by omega) (by decide) (by decide)]
    refine mj_iconst d_Mod_parametersFit_81 (nI 4) (by decide) ?_
    refine mj_icmpneN d_Mod_parametersFit_82 89 rfl (by omega) (fun c_82 => ?_) (fun c_82 => ?_)
    · refine mj_iconst d_Mod_parametersFit_89 (nI 0) (by decide) ?_
      refine mj_iret d_Mod_parametersFit_90 rfl (by decide) (Nat.le_refl _) (Nat.le_refl _) ?_
      first
        | (rw [if1 (by omega)] at kk; exact kk)
        | (rw [if0 (by omega)] at kk; exact kk)
    · refine mj_iconst d_Mod_parametersFit_85 (nI 1) (by decide) ?_
      refine mj_goto d_Mod_parametersFit_86 90 rfl ?_
      refine mj_iret d_Mod_parametersFit_90 rfl (by decide) (Nat.le_refl _) (Nat.le_refl _) ?_
      first
        | (rw [if1 (by omega)] at kk; exact kk)
        | (rw [if0 (by omega)] at kk; exact kk)
  · refine mj_tableIn d_Mod_parametersFit_15 (by decide) (by decide) (off := 76) (by decide) 91 rfl ?_
    refine mj_iload_n d_Mod_parametersFit_91 rfl ?_
    refine mj_ifneN d_Mod_parametersFit_92 106 rfl (by omega) (fun c_92 => ?_) (fun c_92 => ?_)
    · refine mj_iconst d_Mod_parametersFit_106 (nI 0) (by decide) ?_
      refine mj_iret d_Mod_parametersFit_107 rfl (by decide) (Nat.le_refl _) (Nat.le_refl _) ?_
      first
        | (rw [if1 (by omega)] at kk; exact kk)
        | (rw [if0 (by omega)] at kk; exact kk)
    · refine mj_iload_n d_Mod_parametersFit_95 rfl ?_
      refine mj_sipush d_Mod_parametersFit_96 (nI 128) (by decide) ?_
      refine mj_icmpneN d_Mod_parametersFit_99 106 rfl (by omega) (fun c_99 => ?_) (fun c_99 => ?_)
      · refine mj_iconst d_Mod_parametersFit_106 (nI 0) (by decide) ?_
        refine mj_iret d_Mod_parametersFit_107 rfl (by decide) (Nat.le_refl _) (Nat.le_refl _) ?_
        first
          | (rw [if1 (by omega)] at kk; exact kk)
          | (rw [if0 (by omega)] at kk; exact kk)
      · refine mj_iconst d_Mod_parametersFit_102 (nI 1) (by decide) ?_
        refine mj_goto d_Mod_parametersFit_103 107 rfl ?_
        refine mj_iret d_Mod_parametersFit_107 rfl (by decide) (Nat.le_refl _) (Nat.le_refl _) ?_
        first
          | (rw [if1 (by omega)] at kk; exact kk)
          | (rw [if0 (by omega)] at kk; exact kk)
  · refine mj_tableIn d_Mod_parametersFit_15 (by decide) (by decide) (off := 93) (by decide) 108 rfl ?_
    refine mj_iload_n d_Mod_parametersFit_108 rfl ?_
    refine mj_sipush d_Mod_parametersFit_109 (nI 159) (by decide) ?_
    refine mj_icmpneN d_Mod_parametersFit_112 131 rfl (by omega) (fun c_112 => ?_) (fun c_112 => ?_)
    · refine mj_iconst d_Mod_parametersFit_131 (nI 0) (by decide) ?_
      refine mj_iret d_Mod_parametersFit_132 rfl (by decide) (Nat.le_refl _) (Nat.le_refl _) ?_
      first
        | (rw [if1 (by omega)] at kk; exact kk)
        | (rw [if0 (by omega)] at kk; exact kk)
    · refine mj_iload_n d_Mod_parametersFit_115 rfl ?_
      refine mj_bipush d_Mod_parametersFit_116 (nI 54) (by decide) ?_
      refine mj_icmpeqN d_Mod_parametersFit_118 127 rfl (by omega) (fun c_118 => ?_) (fun c_118 => ?_)
      · refine mj_iconst d_Mod_parametersFit_127 (nI 1) (by decide) ?_
        refine mj_goto d_Mod_parametersFit_128 132 rfl ?_
        refine mj_iret d_Mod_parametersFit_132 rfl (by decide) (Nat.le_refl _) (Nat.le_refl _) ?_
        first
          | (rw [if1 (by omega)] at kk; exact kk)
          | (rw [if0 (by omega)] at kk; exact kk)
      · refine mj_iload_n d_Mod_parametersFit_121 rfl ?_
        refine mj_bipush d_Mod_parametersFit_122 (nI 23) (by decide) ?_
        refine mj_icmpneN d_Mod_parametersFit_124 131 rfl (by omega) (fun c_124 => ?_) (fun c_124 => ?_)
        · refine mj_iconst d_Mod_parametersFit_131 (nI 0) (by decide) ?_
          refine mj_iret d_Mod_parametersFit_132 rfl (by decide) (Nat.le_refl _) (Nat.le_refl _) ?_
          first
            | (rw [if1 (by omega)] at kk; exact kk)
            | (rw [if0 (by omega)] at kk; exact kk)
        · refine mj_iconst d_Mod_parametersFit_127 (nI 1) (by decide) ?_
          refine mj_goto d_Mod_parametersFit_128 132 rfl ?_
          refine mj_iret d_Mod_parametersFit_132 rfl (by decide) (Nat.le_refl _) (Nat.le_refl _) ?_
          first
            | (rw [if1 (by omega)] at kk; exact kk)
            | (rw [if0 (by omega)] at kk; exact kk)
  · refine mj_tableOut d_Mod_parametersFit_15 (by decide) 133 rfl ?_
    refine mj_iload_n d_Mod_parametersFit_133 rfl ?_
    refine mj_ifeqN d_Mod_parametersFit_134 150 rfl (by omega) (fun c_134 => ?_) (fun c_134 => ?_)
    · refine mj_iload_n d_Mod_parametersFit_150 rfl ?_
      refine mj_ifneN d_Mod_parametersFit_151 158 rfl (by omega) (fun c_151 => ?_) (fun c_151 => ?_)
      · refine mj_iconst d_Mod_parametersFit_158 (nI 0) (by decide) ?_
        refine mj_iret d_Mod_parametersFit_159 rfl (by decide) (Nat.le_refl _) (Nat.le_refl _) ?_
        first
          | (rw [if1 (by omega)] at kk; exact kk)
          | (rw [if0 (by omega)] at kk; exact kk)
      · refine mj_iconst d_Mod_parametersFit_154 (nI 1) (by decide) ?_
        refine mj_goto d_Mod_parametersFit_155 159 rfl ?_
        refine mj_iret d_Mod_parametersFit_159 rfl (by decide) (Nat.le_refl _) (Nat.le_refl _) ?_
        first
          | (rw [if1 (by omega)] at kk; exact kk)
          | (rw [if0 (by omega)] at kk; exact kk)
    · refine mj_iload_n d_Mod_parametersFit_137 rfl ?_
      refine mj_bipush d_Mod_parametersFit_138 (nI 64) (by decide) ?_
      refine mj_icmpeqN d_Mod_parametersFit_140 150 rfl (by omega) (fun c_140 => ?_) (fun c_140 => ?_)
      · refine mj_iload_n d_Mod_parametersFit_150 rfl ?_
        refine mj_ifneN d_Mod_parametersFit_151 158 rfl (by omega) (fun c_151 => ?_) (fun c_151 => ?_)
        · refine mj_iconst d_Mod_parametersFit_158 (nI 0) (by decide) ?_
          refine mj_iret d_Mod_parametersFit_159 rfl (by decide) (Nat.le_refl _) (Nat.le_refl _) ?_
          first
            | (rw [if1 (by omega)] at kk; exact kk)
            | (rw [if0 (by omega)] at kk; exact kk)
        · refine mj_iconst d_Mod_parametersFit_154 (nI 1) (by decide) ?_
          refine mj_goto d_Mod_parametersFit_155 159 rfl ?_
          refine mj_iret d_Mod_parametersFit_159 rfl (by decide) (Nat.le_refl _) (Nat.le_refl _) ?_
          first
            | (rw [if1 (by omega)] at kk; exact kk)
            | (rw [if0 (by omega)] at kk; exact kk)
      · refine mj_iload_n d_Mod_parametersFit_143 rfl ?_
        refine mj_sipush d_Mod_parametersFit_144 (nI 128) (by decide) ?_
        refine mj_icmpneN d_Mod_parametersFit_147 158 rfl (by omega) (fun c_147 => ?_) (fun c_147 => ?_)
        · refine mj_iconst d_Mod_parametersFit_158 (nI 0) (by decide) ?_
          refine mj_iret d_Mod_parametersFit_159 rfl (by decide) (Nat.le_refl _) (Nat.le_refl _) ?_
          first
            | (rw [if1 (by omega)] at kk; exact kk)
            | (rw [if0 (by omega)] at kk; exact kk)
        · refine mj_iload_n d_Mod_parametersFit_150 rfl ?_
          refine mj_ifneN d_Mod_parametersFit_151 158 rfl (by omega) (fun c_151 => ?_) (fun c_151 => ?_)
          · refine mj_iconst d_Mod_parametersFit_158 (nI 0) (by decide) ?_
            refine mj_iret d_Mod_parametersFit_159 rfl (by decide) (Nat.le_refl _) (Nat.le_refl _) ?_
            first
              | (rw [if1 (by omega)] at kk; exact kk)
              | (rw [if0 (by omega)] at kk; exact kk)
          · refine mj_iconst d_Mod_parametersFit_154 (nI 1) (by decide) ?_
            refine mj_goto d_Mod_parametersFit_155 159 rfl ?_
            refine mj_iret d_Mod_parametersFit_159 rfl (by decide) (Nat.le_refl _) (Nat.le_refl _) ?_
            first
              | (rw [if1 (by omega)] at kk; exact kk)
              | (rw [if0 (by omega)] at kk; exact kk)
theorem s_Mod_stageFits {L : Nat} {xs : Nat → Int32} {Post : Option Value → mHeap → Prop} {h : mHeap} {fkey fdig fnm frc frl frb fen fta frd fbl fmo fse fre fma fend : Nat → Int32} {cu tr an sg am pv : Nat} {t r : List Nat} {fr fo : Nat → Int32} (hB : MB h fkey fdig fnm frc frl frb fen fta frd fbl fmo fse fre fma fend) {c : Nat} (hc : c = 1 ∨ c = 2 ∨ c = 3 ∨ c = 4 ∨ c = 5 ∨ c = 6) (hs : sg ≤ 4) (hu : cu < 65536) (kk : Post (some (.int (nI (if stgOk c sg cu then 1 else 0)))) (pP h (cMod cu tr an sg am pv (t).length (r).length) fr fo)) : mMet M_Mod_stageFits L xs (0, 0) 0 0 [.ref 24, .int (nI c)] (pP h (cMod cu tr an sg am pv (t).length (r).length) fr fo) Post := by
  refine mMet_of rfl (Nat.le_of_ble_eq_true rfl) ?_
  refine mj_iload_n d_Mod_stageFits_0 rfl ?_
  rcases hc with rfl | rfl | rfl | rfl | rfl | rfl
  · refine mj_tableOut d_Mod_stageFits_1 (by decide) 109 rfl ?_
    refine mj_iconst d_Mod_stageFits_109 (nI 1) (by decide) ?_
    refine mj_iret d_Mod_stageFits_110 rfl (by decide) (Nat.le_refl _) (Nat.le_refl _) ?_
    first
      | (rw [if1 (by omega)] at kk; exact kk)
      | (rw [if0 (by omega)] at kk; exact kk)
  · refine mj_tableIn d_Mod_stageFits_1 (by decide) (by decide) (off := 35) (by decide) 36 rfl ?_
    refine mj_aload_n d_Mod_stageFits_36 rfl ?_
    refine mj_get d_Mod_stageFits_37 fd_Mod_109 (pP_24 hB.1) rfl ?_
    refine mj_iconst d_Mod_stageFits_40 (nI 1) (by decide) ?_
    refine mj_icmpneN d_Mod_stageFits_41 57 rfl (by omega) (fun c_41 => ?_) (fun c_41 => ?_)
    · refine mj_iconst d_Mod_stageFits_57 (nI 0) (by decide) ?_
      refine mj_iret d_Mod_stageFits_58 rfl (by decide) (Nat.le_refl _) (Nat.le_refl _) ?_
      first
        | (rw [if1 (by omega)] at kk; exact kk)
        | (rw [if0 (by omega)] at kk; exact kk)
    · refine mj_aload_n d_Mod_stageFits_44 rfl ?_
      refine mj_get d_Mod_stageFits_45 fd_Mod_112 (pP_24 hB.1) rfl ?_
      refine mj_ldc d_Mod_stageFits_48 (nI 65535) q_603 ?_
      refine mj_icmpgeN d_Mod_stageFits_50 57 rfl (by omega) (fun c_50 => ?_) (fun c_50 => ?_)
      · refine mj_iconst d_Mod_stageFits_57 (nI 0) (by decide) ?_
        refine mj_iret d_Mod_stageFits_58 rfl (by decide) (Nat.le_refl _) (Nat.le_refl _) ?_
        first
          | (rw [if1 (by omega)] at kk; exact kk)
          | (rw [if0 (by omega)] at kk; exact kk)
      · refine mj_iconst d_Mod_stageFits_53 (nI 1) (by decide) ?_
        refine mj_goto d_Mod_stageFits_54 58 rfl ?_
        refine mj_iret d_Mod_stageFits_58 rfl (by decide) (Nat.le_refl _) (Nat.le_refl _) ?_
        first
          | (rw [if1 (by omega)] at kk; exact kk)
          | (rw [if0 (by omega)] at kk; exact kk)
  · refine mj_tableIn d_Mod_stageFits_1 (by decide) (by decide) (off := 58) (by decide) 59 rfl ?_
    refine mj_aload_n d_Mod_stageFits_59 rfl ?_
    refine mj_get d_Mod_stageFits_60 fd_Mod_109 (pP_24 hB.1) rfl ?_
    refine mj_iconst d_Mod_stageFits_63 (nI 2) (by decide) ?_
    refine mj_icmpltN d_Mod_stageFits_64 71 rfl (by omega) (fun c_64 => ?_) (fun c_64 => ?_)
    · refine mj_iconst d_Mod_stageFits_71 (nI 0) (by decide) ?_
      refine mj_iret d_Mod_stageFits_72 rfl (by decide) (Nat.le_refl _) (Nat.le_refl _) ?_
      first
        | (rw [if1 (by omega)] at kk; exact kk)
        | (rw [if0 (by omega)] at kk; exact kk)
    · refine mj_iconst d_Mod_stageFits_67 (nI 1) (by decide) ?_
      refine mj_goto d_Mod_stageFits_68 72 rfl ?_
      refine mj_iret d_Mod_stageFits_72 rfl (by decide) (Nat.le_refl _) (Nat.le_refl _) ?_
      first
        | (rw [if1 (by omega)] at kk; exact kk)
        | (rw [if0 (by omega)] at kk; exact kk)
  · refine mj_tableIn d_Mod_stageFits_1 (by decide) (by decide) (off := 72) (by decide) 73 rfl ?_
    refine mj_aload_n d_Mod_stageFits_73 rfl ?_
    refine mj_get d_Mod_stageFits_74 fd_Mod_109 (pP_24 hB.1) rfl ?_
    refine mj_iconst d_Mod_stageFits_77 (nI 2) (by decide) ?_
    refine mj_icmpneN d_Mod_stageFits_78 85 rfl (by omega) (fun c_78 => ?_) (fun c_78 => ?_)
    · refine mj_iconst d_Mod_stageFits_85 (nI 0) (by decide) ?_
      refine mj_iret d_Mod_stageFits_86 rfl (by decide) (Nat.le_refl _) (Nat.le_refl _) ?_
      first
        | (rw [if1 (by omega)] at kk; exact kk)
        | (rw [if0 (by omega)] at kk; exact kk)
    · refine mj_iconst d_Mod_stageFits_81 (nI 1) (by decide) ?_
      refine mj_goto d_Mod_stageFits_82 86 rfl ?_
      refine mj_iret d_Mod_stageFits_86 rfl (by decide) (Nat.le_refl _) (Nat.le_refl _) ?_
      first
        | (rw [if1 (by omega)] at kk; exact kk)
        | (rw [if0 (by omega)] at kk; exact kk)
  · refine mj_tableIn d_Mod_stageFits_1 (by decide) (by decide) (off := 108) (by decide) 109 rfl ?_
    refine mj_iconst d_Mod_stageFits_109 (nI 1) (by decide) ?_
    refine mj_iret d_Mod_stageFits_110 rfl (by decide) (Nat.le_refl _) (Nat.le_refl _) ?_
    first
      | (rw [if1 (by omega)] at kk; exact kk)
      | (rw [if0 (by omega)] at kk; exact kk)
  · refine mj_tableIn d_Mod_stageFits_1 (by decide) (by decide) (off := 86) (by decide) 87 rfl ?_
    refine mj_aload_n d_Mod_stageFits_87 rfl ?_
    refine mj_get d_Mod_stageFits_88 fd_Mod_109 (pP_24 hB.1) rfl ?_
    refine mj_iconst d_Mod_stageFits_91 (nI 2) (by decide) ?_
    refine mj_icmpeqN d_Mod_stageFits_92 103 rfl (by omega) (fun c_92 => ?_) (fun c_92 => ?_)
    · refine mj_iconst d_Mod_stageFits_103 (nI 1) (by decide) ?_
      refine mj_goto d_Mod_stageFits_104 108 rfl ?_
      refine mj_iret d_Mod_stageFits_108 rfl (by decide) (Nat.le_refl _) (Nat.le_refl _) ?_
      first
        | (rw [if1 (by omega)] at kk; exact kk)
        | (rw [if0 (by omega)] at kk; exact kk)
    · refine mj_aload_n d_Mod_stageFits_95 rfl ?_
      refine mj_get d_Mod_stageFits_96 fd_Mod_109 (pP_24 hB.1) rfl ?_
      refine mj_iconst d_Mod_stageFits_99 (nI 3) (by decide) ?_
      refine mj_icmpneN d_Mod_stageFits_100 107 rfl (by omega) (fun c_100 => ?_) (fun c_100 => ?_)
      · refine mj_iconst d_Mod_stageFits_107 (nI 0) (by decide) ?_
        refine mj_iret d_Mod_stageFits_108 rfl (by decide) (Nat.le_refl _) (Nat.le_refl _) ?_
        first
          | (rw [if1 (by omega)] at kk; exact kk)
          | (rw [if0 (by omega)] at kk; exact kk)
      · refine mj_iconst d_Mod_stageFits_103 (nI 1) (by decide) ?_
        refine mj_goto d_Mod_stageFits_104 108 rfl ?_
        refine mj_iret d_Mod_stageFits_108 rfl (by decide) (Nat.le_refl _) (Nat.le_refl _) ?_
        first
          | (rw [if1 (by omega)] at kk; exact kk)
          | (rw [if0 (by omega)] at kk; exact kk)
theorem s_Mod_lengthFits {L : Nat} {xs : Nat → Int32} {Post : Option Value → mHeap → Prop} {h : mHeap} {fkey fdig fnm frc frl frb fen fta frd fbl fmo fse fre fma fend : Nat → Int32} {cu tr an sg am pv : Nat} {t r : List Nat} {fr fo : Nat → Int32} (hB : MB h fkey fdig fnm frc frl frb fen fta frd fbl fmo fse fre fma fend) {c : Nat} (hc : c = 1 ∨ c = 2 ∨ c = 3 ∨ c = 4 ∨ c = 5 ∨ c = 6) (hw : wfR t) (htl : t.length ≤ 40) (hs : sg ≤ 4) (kk : Post (some (.int (nI (if datOk c (datN t) sg then 1 else 0)))) (pP h (cMod cu tr an sg am pv (t).length (r).length) fr fo)) : mMet M_Mod_lengthFits L xs (0, 0) 0 0 [.ref 24, .int (nI c)] (pP h (cMod cu tr an sg am pv (t).length (r).length) fr fo) Post := by
  refine mMet_of rfl (Nat.le_of_ble_eq_true rfl) ?_
  have hd : (t.length = 4 ∧ datN t = 0) ∨ (t.length ≠ 4 ∧ 5 < t.length ∧ datN t = t.length - 5) := by
    unfold datN
    by_cases z : 5 < t.length
    · rw [if_pos z]; omega
    · rw [if_neg z]; omega
  have rest : ∀ n : Nat, n = datN t → ∀ w : Option Value, mGo M_Mod_lengthFits L xs (0, 0) 0 0 Post 0 0 19 [some (.ref 24), some (.int (nI c)), some (.int (nI n))] [] (pP h (cMod cu tr an sg am pv (t).length (r).length) fr fo) := by
    intro n hn w
    rw [← hn] at kk
    have hn40 : n ≤ 40 := by omega
    refine mj_iload_n d_Mod_lengthFits_19 rfl ?_
    rcases hc with rfl | rfl | rfl | rfl | rfl | rfl
    · refine mj_tableIn d_Mod_lengthFits_20 (by decide) (by decide) (off := 40) (by decide) 60 rfl ?_
      refine mj_iload_n d_Mod_lengthFits_60 rfl ?_
      refine mj_iconst d_Mod_lengthFits_61 (nI 5) (by decide) ?_
      refine mj_icmpltN d_Mod_lengthFits_62 75 rfl (by omega) (fun c_62 => ?_) (fun c_62 => ?_)
      · refine mj_iconst d_Mod_lengthFits_75 (nI 0) (by decide) ?_
        refine mj_iret d_Mod_lengthFits_76 rfl (by decide) (Nat.le_refl _) (Nat.le_refl _) ?_
        first
          | (rw [if1 (by omega)] at kk; exact kk)
          | (rw [if0 (by omega)] at kk; exact kk)
      · refine mj_iload_n d_Mod_lengthFits_65 rfl ?_
        refine mj_bipush d_Mod_lengthFits_66 (nI 16) (by decide) ?_
        refine mj_icmpgtN d_Mod_lengthFits_68 75 rfl (by omega) (fun c_68 => ?_) (fun c_68 => ?_)
        · refine mj_iconst d_Mod_lengthFits_75 (nI 0) (by decide) ?_
          refine mj_iret d_Mod_lengthFits_76 rfl (by decide) (Nat.le_refl _) (Nat.le_refl _) ?_
          first
            | (rw [if1 (by omega)] at kk; exact kk)
            | (rw [if0 (by omega)] at kk; exact kk)
        · refine mj_iconst d_Mod_lengthFits_71 (nI 1) (by decide) ?_
          refine mj_goto d_Mod_lengthFits_72 76 rfl ?_
          refine mj_iret d_Mod_lengthFits_76 rfl (by decide) (Nat.le_refl _) (Nat.le_refl _) ?_
          first
            | (rw [if1 (by omega)] at kk; exact kk)
            | (rw [if0 (by omega)] at kk; exact kk)
    · refine mj_tableIn d_Mod_lengthFits_20 (by decide) (by decide) (off := 57) (by decide) 77 rfl ?_
      refine mj_iload_n d_Mod_lengthFits_77 rfl ?_
      refine mj_bipush d_Mod_lengthFits_78 (nI 8) (by decide) ?_
      refine mj_icmpneN d_Mod_lengthFits_80 87 rfl (by omega) (fun c_80 => ?_) (fun c_80 => ?_)
      · refine mj_iconst d_Mod_lengthFits_87 (nI 0) (by decide) ?_
        refine mj_iret d_Mod_lengthFits_88 rfl (by decide) (Nat.le_refl _) (Nat.le_refl _) ?_
        first
          | (rw [if1 (by omega)] at kk; exact kk)
          | (rw [if0 (by omega)] at kk; exact kk)
      · refine mj_iconst d_Mod_lengthFits_83 (nI 1) (by decide) ?_
        refine mj_goto d_Mod_lengthFits_84 88 rfl ?_
        refine mj_iret d_Mod_lengthFits_88 rfl (by decide) (Nat.le_refl _) (Nat.le_refl _) ?_
        first
          | (rw [if1 (by omega)] at kk; exact kk)
          | (rw [if0 (by omega)] at kk; exact kk)
    · refine mj_tableIn d_Mod_lengthFits_20 (by decide) (by decide) (off := 94) (by decide) 114 rfl ?_
      refine mj_iload_n d_Mod_lengthFits_114 rfl ?_
      refine mj_ifneN d_Mod_lengthFits_115 122 rfl (by omega) (fun c_115 => ?_) (fun c_115 => ?_)
      · refine mj_iconst d_Mod_lengthFits_122 (nI 0) (by decide) ?_
        refine mj_iret d_Mod_lengthFits_123 rfl (by decide) (Nat.le_refl _) (Nat.le_refl _) ?_
        first
          | (rw [if1 (by omega)] at kk; exact kk)
          | (rw [if0 (by omega)] at kk; exact kk)
      · refine mj_iconst d_Mod_lengthFits_118 (nI 1) (by decide) ?_
        refine mj_goto d_Mod_lengthFits_119 123 rfl ?_
        refine mj_iret d_Mod_lengthFits_123 rfl (by decide) (Nat.le_refl _) (Nat.le_refl _) ?_
        first
          | (rw [if1 (by omega)] at kk; exact kk)
          | (rw [if0 (by omega)] at kk; exact kk)
    · refine mj_tableIn d_Mod_lengthFits_20 (by decide) (by decide) (off := 57) (by decide) 77 rfl ?_
      refine mj_iload_n d_Mod_lengthFits_77 rfl ?_
      refine mj_bipush d_Mod_lengthFits_78 (nI 8) (by decide) ?_
      refine mj_icmpneN d_Mod_lengthFits_80 87 rfl (by omega) (fun c_80 => ?_) (fun c_80 => ?_)
      · refine mj_iconst d_Mod_lengthFits_87 (nI 0) (by decide) ?_
        refine mj_iret d_Mod_lengthFits_88 rfl (by decide) (Nat.le_refl _) (Nat.le_refl _) ?_
        first
          | (rw [if1 (by omega)] at kk; exact kk)
          | (rw [if0 (by omega)] at kk; exact kk)
      · refine mj_iconst d_Mod_lengthFits_83 (nI 1) (by decide) ?_
        refine mj_goto d_Mod_lengthFits_84 88 rfl ?_
        refine mj_iret d_Mod_lengthFits_88 rfl (by decide) (Nat.le_refl _) (Nat.le_refl _) ?_
        first
          | (rw [if1 (by omega)] at kk; exact kk)
          | (rw [if0 (by omega)] at kk; exact kk)
    · refine mj_tableIn d_Mod_lengthFits_20 (by decide) (by decide) (off := 94) (by decide) 114 rfl ?_
      refine mj_iload_n d_Mod_lengthFits_114 rfl ?_
      refine mj_ifneN d_Mod_lengthFits_115 122 rfl (by omega) (fun c_115 => ?_) (fun c_115 => ?_)
      · refine mj_iconst d_Mod_lengthFits_122 (nI 0) (by decide) ?_
        refine mj_iret d_Mod_lengthFits_123 rfl (by decide) (Nat.le_refl _) (Nat.le_refl _) ?_
        first
          | (rw [if1 (by omega)] at kk; exact kk)
          | (rw [if0 (by omega)] at kk; exact kk)
      · refine mj_iconst d_Mod_lengthFits_118 (nI 1) (by decide) ?_
        refine mj_goto d_Mod_lengthFits_119 123 rfl ?_
        refine mj_iret d_Mod_lengthFits_123 rfl (by decide) (Nat.le_refl _) (Nat.le_refl _) ?_
        first
          | (rw [if1 (by omega)] at kk; exact kk)
          | (rw [if0 (by omega)] at kk; exact kk)
    · refine mj_tableIn d_Mod_lengthFits_20 (by decide) (by decide) (off := 69) (by decide) 89 rfl ?_
      refine mj_iload_n d_Mod_lengthFits_89 rfl ?_
      refine mj_aload_n d_Mod_lengthFits_90 rfl ?_
      refine mj_get d_Mod_lengthFits_91 fd_Mod_109 (pP_24 hB.1) rfl ?_
      refine mj_iconst d_Mod_lengthFits_94 (nI 2) (by decide) ?_
      refine mj_icmpneN d_Mod_lengthFits_95 103 rfl (by omega) (fun c_95 => ?_) (fun c_95 => ?_)
      · refine mj_bipush d_Mod_lengthFits_103 (nI 12) (by decide) ?_
        refine mj_icmpneN d_Mod_lengthFits_105 112 rfl (by omega) (fun c_105 => ?_) (fun c_105 => ?_)
        · refine mj_iconst d_Mod_lengthFits_112 (nI 0) (by decide) ?_
          refine mj_iret d_Mod_lengthFits_113 rfl (by decide) (Nat.le_refl _) (Nat.le_refl _) ?_
          first
            | (rw [if1 (by omega)] at kk; exact kk)
            | (rw [if0 (by omega)] at kk; exact kk)
        · refine mj_iconst d_Mod_lengthFits_108 (nI 1) (by decide) ?_
          refine mj_goto d_Mod_lengthFits_109 113 rfl ?_
          refine mj_iret d_Mod_lengthFits_113 rfl (by decide) (Nat.le_refl _) (Nat.le_refl _) ?_
          first
            | (rw [if1 (by omega)] at kk; exact kk)
            | (rw [if0 (by omega)] at kk; exact kk)
      · refine mj_bipush d_Mod_lengthFits_98 (nI 10) (by decide) ?_
        refine mj_goto d_Mod_lengthFits_100 105 rfl ?_
        refine mj_icmpneN d_Mod_lengthFits_105 112 rfl (by omega) (fun c_105 => ?_) (fun c_105 => ?_)
        · refine mj_iconst d_Mod_lengthFits_112 (nI 0) (by decide) ?_
          refine mj_iret d_Mod_lengthFits_113 rfl (by decide) (Nat.le_refl _) (Nat.le_refl _) ?_
          first
            | (rw [if1 (by omega)] at kk; exact kk)
            | (rw [if0 (by omega)] at kk; exact kk)
        · refine mj_iconst d_Mod_lengthFits_108 (nI 1) (by decide) ?_
          refine mj_goto d_Mod_lengthFits_109 113 rfl ?_
          refine mj_iret d_Mod_lengthFits_113 rfl (by decide) (Nat.le_refl _) (Nat.le_refl _) ?_
          first
            | (rw [if1 (by omega)] at kk; exact kk)
            | (rw [if0 (by omega)] at kk; exact kk)
  refine mj_aload_n d_Mod_lengthFits_0 rfl ?_
  refine mj_get d_Mod_lengthFits_1 fd_Mod_97 (pP_24 hB.1) rfl ?_
  refine mj_iconst d_Mod_lengthFits_4 (nI 4) (by decide) ?_
  refine mj_icmpneN d_Mod_lengthFits_5 12 rfl (by omega) (fun c_5 => ?_) (fun c_5 => ?_)
  · refine mj_aload_n d_Mod_lengthFits_12 rfl ?_
    refine mj_get d_Mod_lengthFits_13 fd_Mod_97 (pP_24 hB.1) rfl ?_
    refine mj_iconst d_Mod_lengthFits_16 (nI 5) (by decide) ?_
    refine mj_isub d_Mod_lengthFits_17 ?_
    rw [pk_sub (by omega)]
    refine mj_istore_n d_Mod_lengthFits_18 (by decide) ?_
    dsimp only [mSt1, mSt2, mKill, Nat.reduceAdd]
    first
      | exact rest 0 (by omega) none
      | exact rest (t.length - 5) (by omega) none
  · refine mj_iconst d_Mod_lengthFits_8 (nI 0) (by decide) ?_
    refine mj_goto d_Mod_lengthFits_9 18 rfl ?_
    refine mj_istore_n d_Mod_lengthFits_18 (by decide) ?_
    dsimp only [mSt1, mSt2, mKill, Nat.reduceAdd]
    first
      | exact rest 0 (by omega) none
      | exact rest (t.length - 5) (by omega) none
theorem lp_six {L : Nat} {xs : Nat → Int32} {Post : Option Value → mHeap → Prop} {h : mHeap} {fkey fdig fnm frc frl frb fen fta frd fbl fmo fse fre fma fend : Nat → Int32} {cu tr an sg am pv : Nat} {t r : List Nat} {fr fo : Nat → Int32} (hB : MB h fkey fdig fnm frc frl frb fen fta frd fbl fmo fse fre fma fend) {p : Nat} (ht : Rf t fr) (hbt : Bb t) (hp : p + 6 ≤ t.length) (htl : t.length ≤ 40) (kk : Post (some (.long (lN (amtN t p 6)))) (pP h (cMod cu tr an sg am pv (t).length (r).length) fr fo)) : ∀ (m i : Nat), i + m = 6 → mGo M_Mod_sixFrom L xs (0, 0) 0 0 Post 0 0 5 [some (.ref 24), some (.int (nI p)), some (.long (lN (beV ((t.drop p).take i)))), none, some (.int (nI i))] [] (pP h (cMod cu tr an sg am pv (t).length (r).length) fr fo) := by
  intro m
  induction m with
  | zero =>
    intro i hi
    refine mj_iload d_Mod_sixFrom_5 rfl ?_
    refine mj_bipush d_Mod_sixFrom_7 (nI 6) (by decide) ?_
    refine mj_icmpgeN d_Mod_sixFrom_9 35 rfl (by omega) (fun c_9 => ?_) (fun c_9 => ?_)
    · refine mj_lload_n d_Mod_sixFrom_35 rfl ?_
      refine mj_lret d_Mod_sixFrom_36 rfl (Nat.le_refl _) (Nat.le_refl _) ?_
      obtain rfl : i = 6 := by omega
      exact kk
    · omega
  | succ m ih =>
    intro i hi
    refine mj_iload d_Mod_sixFrom_5 rfl ?_
    refine mj_bipush d_Mod_sixFrom_7 (nI 6) (by decide) ?_
    refine mj_icmpgeN d_Mod_sixFrom_9 35 rfl (by omega) (fun c_9 => ?_) (fun c_9 => ?_)
    · omega
    · refine mj_ldc2 d_Mod_sixFrom_12 256 q_629 ?_
      refine mj_lload_n d_Mod_sixFrom_15 rfl ?_
      refine mj_lmul d_Mod_sixFrom_16 ?_
      rw [show (256 : Int64) = lN 256 from rfl, lN_mul]
      refine mj_aload_n d_Mod_sixFrom_17 rfl ?_
      refine mj_get d_Mod_sixFrom_18 fd_Mod_32 (pP_24 hB.1) rfl ?_
      refine mj_iload_n d_Mod_sixFrom_21 rfl ?_
      refine mj_iload d_Mod_sixFrom_22 rfl ?_
      refine mj_iadd d_Mod_sixFrom_24 ?_
      rw [nI_add]
      refine mj_ialdN d_Mod_sixFrom_25 (pP_31 hB.2.1) (by omega) ?_
      rw [ht _ (by omega)]
      refine mj_i2l d_Mod_sixFrom_26 ?_
      rw [nI_l (by have := getD_lt hbt (p + i); omega)]
      refine mj_ladd d_Mod_sixFrom_27 ?_
      rw [lN_add, Nat.mul_comm 256]
      have e : (t.drop p).take (i + 1) = (t.drop p).take i ++ [t.getD (p + i) 0] := by
        have hlt : p + i < t.length := by omega
        rw [List.take_succ, List.getElem?_drop, List.getD_eq_getElem?_getD, List.getElem?_eq_getElem hlt]
        rfl
      rw [show beV ((t.drop p).take i) * 256 + t.getD (p + i) 0 = beV ((t.drop p).take (i + 1)) by rw [e, beV_app]]
      refine mj_lstore_n d_Mod_sixFrom_28 (by decide) ?_
      dsimp only [mSt1, mSt2, mKill, Nat.reduceAdd]
      refine mj_iinc d_Mod_sixFrom_29 rfl (by decide) (nI (i + 1)) (nI_1 i) ?_
      dsimp only [mSt1, mSt2, mKill, Nat.reduceAdd]
      refine mj_goto d_Mod_sixFrom_32 5 rfl ?_
      exact ih (i + 1) (by omega)
theorem s_Mod_sixFrom {L : Nat} {xs : Nat → Int32} {Post : Option Value → mHeap → Prop} {h : mHeap} {fkey fdig fnm frc frl frb fen fta frd fbl fmo fse fre fma fend : Nat → Int32} {cu tr an sg am pv : Nat} {t r : List Nat} {fr fo : Nat → Int32} (hB : MB h fkey fdig fnm frc frl frb fen fta frd fbl fmo fse fre fma fend) {p : Nat} (ht : Rf t fr) (hbt : Bb t) (hp : p + 6 ≤ t.length) (htl : t.length ≤ 40) (kk : Post (some (.long (lN (amtN t p 6)))) (pP h (cMod cu tr an sg am pv (t).length (r).length) fr fo)) : mMet M_Mod_sixFrom L xs (0, 0) 0 0 [.ref 24, .int (nI p)] (pP h (cMod cu tr an sg am pv (t).length (r).length) fr fo) Post := by
  refine mMet_of rfl (Nat.le_of_ble_eq_true rfl) ?_
  refine mj_lconst d_Mod_sixFrom_0 0 (by decide) ?_
  refine mj_lstore_n d_Mod_sixFrom_1 (by decide) ?_
  dsimp only [mSt1, mSt2, mKill, Nat.reduceAdd]
  refine mj_iconst d_Mod_sixFrom_2 (nI 0) (by decide) ?_
  refine mj_istore d_Mod_sixFrom_3 (by decide) ?_
  dsimp only [mSt1, mSt2, mKill, Nat.reduceAdd]
  exact lp_six hB ht hbt hp htl kk 6 0 (by omega)
theorem s_Mod_half {L : Nat} {xs : Nat → Int32} {Post : Option Value → mHeap → Prop} {h : mHeap} {fkey fdig fnm frc frl frb fen fta frd fbl fmo fse fre fma fend : Nat → Int32} {cu tr an sg am pv : Nat} {t r : List Nat} {fr fo : Nat → Int32} (hB : MB h fkey fdig fnm frc frl frb fen fta frd fbl fmo fse fre fma fend) {k : Nat} (hk : k < 4) (ht : Rf t fr) (hbt : Bb t) (hp : 13 ≤ t.length) (htl : t.length ≤ 40) (kk : Post (some (.int (nI (if k % 2 = 0 then t.getD (6 + k / 2) 0 / 16 else t.getD (6 + k / 2) 0 % 16)))) (pP h (cMod cu tr an sg am pv (t).length (r).length) fr fo)) : mMet M_Mod_half L xs (0, 0) 0 0 [.ref 24, .int (nI k)] (pP h (cMod cu tr an sg am pv (t).length (r).length) fr fo) Post := by
  refine mMet_of rfl (Nat.le_of_ble_eq_true rfl) ?_
  have b := getD_lt hbt (6 + k / 2)
  refine mj_aload_n d_Mod_half_0 rfl ?_
  refine mj_get d_Mod_half_1 fd_Mod_32 (pP_24 hB.1) rfl ?_
  refine mj_bipush d_Mod_half_4 (nI 6) (by decide) ?_
  refine mj_iload_n d_Mod_half_6 rfl ?_
  refine mj_iconst d_Mod_half_7 (nI 2) (by decide) ?_
  refine mj_idiv d_Mod_half_8 (by decide) ?_
  rw [pk_div (by omega) (by decide) (by decide)]
  refine mj_iadd d_Mod_half_9 ?_
  rw [nI_add]
  refine mj_ialdN d_Mod_half_10 (pP_31 hB.2.1) (by omega) ?_
  rw [ht _ (by omega)]
  refine mj_istore_n d_Mod_half_11 (by decide) ?_
  dsimp only [mSt1, mSt2, mKill, Nat.reduceAdd]
  refine mj_iload_n d_Mod_half_12 rfl ?_
  refine mj_iconst d_Mod_half_13 (nI 2) (by decide) ?_
  refine mj_irem d_Mod_half_14 (by decide) ?_
  rw [pk_rem (by omega) (by decide) (by decide)]
  refine mj_ifneN d_Mod_half_15 25 rfl (by omega) (fun c_15 => ?_) (fun c_15 => ?_)
  · refine mj_iload_n d_Mod_half_25 rfl ?_
    refine mj_bipush d_Mod_half_26 (nI 16) (by decide) ?_
    refine mj_irem d_Mod_half_28 (by decide) ?_
    rw [pk_rem (by omega) (by decide) (by decide)]
    refine mj_iret d_Mod_half_29 rfl rfl (Nat.le_refl _) (Nat.le_refl _) ?_
    first
      | (rw [if_pos c_15] at kk; exact kk)
      | (rw [if_neg c_15] at kk; exact kk)
  · refine mj_iload_n d_Mod_half_18 rfl ?_
    refine mj_bipush d_Mod_half_19 (nI 16) (by decide) ?_
    refine mj_idiv d_Mod_half_21 (by decide) ?_
    rw [pk_div (by omega) (by decide) (by decide)]
    refine mj_goto d_Mod_half_22 29 rfl ?_
    refine mj_iret d_Mod_half_29 rfl rfl (Nat.le_refl _) (Nat.le_refl _) ?_
    first
      | (rw [if_pos c_15] at kk; exact kk)
      | (rw [if_neg c_15] at kk; exact kk)
