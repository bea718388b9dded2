theorem MW_27 {fen : Nat → Int32} {t r nm : List Nat} {cnt : Nat → Nat} {rc : Nat → List Nat} {rk : Nat → Nat} {co cu tr an sg am pv : Nat} {pre h : mHeap} (hW : MW fen t r nm cnt rc rk co cu tr an sg am pv pre h) : ∃ f, h[27]? = some (cArr 7 f) ∧ Rf nm f := by
  obtain ⟨h0, fkey, fdig, fnm, frc, frl, frb, fta, frd, fbl, fmo, fse, fre, fma, fend, fr, fo, ⟨ht, hr, hnm, hdg, hF, hta, hrd⟩, hB, hq, rfl⟩ := hW
  exact ⟨_, (pP_get hB.2.2.2.2.2.1 (by decide) (by decide) (by decide)), hnm⟩
theorem MW_32 {fen : Nat → Int32} {t r nm : List Nat} {cnt : Nat → Nat} {rc : Nat → List Nat} {rk : Nat → Nat} {co cu tr an sg am pv : Nat} {pre h : mHeap} (hW : MW fen t r nm cnt rc rk co cu tr an sg am pv pre h) : ∃ f, h[32]? = some (cArr 64 f) ∧ Rf r f := by
  obtain ⟨h0, fkey, fdig, fnm, frc, frl, frb, fta, frd, fbl, fmo, fse, fre, fma, fend, fr, fo, ⟨ht, hr, hnm, hdg, hF, hta, hrd⟩, hB, hq, rfl⟩ := hW
  exact ⟨_, (pP_32 hB.2.2.1), hr⟩
theorem MW_33 {fen : Nat → Int32} {t r nm : List Nat} {cnt : Nat → Nat} {rc : Nat → List Nat} {rk : Nat → Nat} {co cu tr an sg am pv : Nat} {pre h : mHeap} (hW : MW fen t r nm cnt rc rk co cu tr an sg am pv pre h) : h[33]? = some (cArr 16 fen) := by
  obtain ⟨h0, fkey, fdig, fnm, frc, frl, frb, fta, frd, fbl, fmo, fse, fre, fma, fend, fr, fo, ⟨ht, hr, hnm, hdg, hF, hta, hrd⟩, hB, hq, rfl⟩ := hW
  exact (pP_get hB.2.2.2.2.2.2.2.2.2.1 (by decide) (by decide) (by decide))
theorem MW_s33 {fen : Nat → Int32} {t r nm : List Nat} {cnt : Nat → Nat} {rc : Nat → List Nat} {rk : Nat → Nat} {co cu tr an sg am pv : Nat} {pre h : mHeap} {g2 : Nat → Int32} (hW : MW fen t r nm cnt rc rk co cu tr an sg am pv pre h) : MW g2 t r nm cnt rc rk co cu tr an sg am pv pre (h.set 33 (cArr 16 g2)) := by
  obtain ⟨h0, fkey, fdig, fnm, frc, frl, frb, fta, frd, fbl, fmo, fse, fre, fma, fend, fr, fo, ⟨ht, hr, hnm, hdg, hF, hta, hrd⟩, hB, hq, rfl⟩ := hW
  rw [pP_sk (by decide) (by decide) (by decide)]
  exact ⟨_, fkey, fdig, fnm, frc, frl, frb, fta, frd, fbl, fmo, fse, fre, fma, fend, fr, fo, ⟨ht, hr, hnm, hdg, hF, hta, hrd⟩, (MBs_33 hB), ((tk24 (by decide)).trans hq), rfl⟩
theorem lk_sel {L : Nat} {xs : Nat → Int32} {Post : Option Value → mHeap → Prop} {fen : Nat → Int32} {t r nm : List Nat} {cnt : Nat → Nat} {rc : Nat → List Nat} {rk : Nat → Nat} {co cu tr an sg am pv : Nat} {pre : mHeap}  (hA : AI t r nm cnt rc rk co cu tr an sg am pv) (kP : ∀ (S : R8) (h' : mHeap), S = (sendF (selT nm) nm cnt rc rk co cu tr an sg am pv) → MW fen [] S.2.1 nm cnt rc rk co S.2.2.1 S.2.2.2.1 S.2.2.2.2.1 S.2.2.2.2.2.1 S.2.2.2.2.2.2.1 S.2.2.2.2.2.2.2 pre h' → AI [] S.2.1 nm cnt rc rk co S.2.2.1 S.2.2.2.1 S.2.2.2.2.1 S.2.2.2.2.2.1 S.2.2.2.2.2.2.1 S.2.2.2.2.2.2.2 → S.1 < 65536 → Post (some (.int (nI S.1))) h') : ∀ (m i : Nat) (h : mHeap), i + m = 7 → MW fen (headT 164 4 0 7 ++ nm.take i) r nm cnt rc rk co cu tr an sg am pv pre h → mGo M_Mod_sendSelect L xs (7, 167) 0 0 Post 0 0 13 [some (.ref 24), some (.int (nI i))] [] h := by
  intro m
  induction m with
  | zero =>
    intro i h hi hW
    have h7 := hA.2.2.1.2
    refine mj_iload_n d_Mod_sendSelect_13 rfl ?_
    refine mj_bipush d_Mod_sendSelect_14 (nI 7) (by decide) ?_
    refine mj_icmpgeN d_Mod_sendSelect_16 35 rfl (by omega) (fun c_16 => ?_) (fun c_16 => ?_)
    · rw [List.take_of_length_le (by omega)] at hW
      refine mj_aload_n d_Mod_sendSelect_35 rfl ?_
      refine mj_virtual (d' := (6, 146)) (mc := 0) (ms := 0) (As := []) d_Mod_sendSelect_36 cw_Mod_send q_735 q_581 q_582 (ci := 6) rfl (MW_24 hW) rfl rfl (mRoomB rfl) ?_
      refine s_Mod_send (t := selT nm) (AI_t hA (Bb_app (headT_Bb (by decide) (by decide) (by decide) (by decide)) hA.2.2.1.1) (by simp [selT, headT, hA.2.2.1.2])) hW (fun S h1 hS hW1 hA1 hl1 => ?_)
      refine mj_iret d_Mod_sendSelect_39 rfl rfl (Nat.le_refl _) (Nat.le_refl _) ?_
      exact kP S h1 hS hW1 hA1 hl1
    · omega
  | succ m ih =>
    intro i h hi hW
    obtain ⟨fnm, h27, hnm⟩ := MW_27 hW
    have h7 := hA.2.2.1.2
    refine mj_iload_n d_Mod_sendSelect_13 rfl ?_
    refine mj_bipush d_Mod_sendSelect_14 (nI 7) (by decide) ?_
    refine mj_icmpgeN d_Mod_sendSelect_16 35 rfl (by omega) (fun c_16 => ?_) (fun c_16 => ?_)
    · omega
    · refine mj_aload_n d_Mod_sendSelect_19 rfl ?_
      refine mj_aload_n d_Mod_sendSelect_20 rfl ?_
      refine mj_get d_Mod_sendSelect_21 fd_Mod_16 (MW_24 hW) rfl ?_
      refine mj_iload_n d_Mod_sendSelect_24 rfl ?_
      refine mj_ialdN d_Mod_sendSelect_25 h27 (by omega) ?_
      rw [hnm _ (by omega)]
      refine mj_virtual (d' := (0, 0)) (mc := 0) (ms := 0) (As := [_]) d_Mod_sendSelect_26 cw_Mod_type q_731 q_733 qs_Mod_type (ci := 6) rfl (MW_24 hW) rfl rfl (mRoomB rfl) ?_
      refine m_type hW (by simp [headT]; omega) (fun h1 hW1 => ?_)
      rw [List.append_assoc, take_s (by omega)] at hW1
      refine mj_iinc d_Mod_sendSelect_29 rfl (by decide) (nI (i + 1)) (nI_1 i) ?_
      dsimp only [mSt1, mSt2, mKill, Nat.reduceAdd]
      refine mj_goto d_Mod_sendSelect_32 13 rfl ?_
      exact ih (i + 1) h1 (by omega) hW1
theorem s_Mod_sendSelect {L : Nat} {xs : Nat → Int32} {Post : Option Value → mHeap → Prop} {fen : Nat → Int32} {t r nm : List Nat} {cnt : Nat → Nat} {rc : Nat → List Nat} {rk : Nat → Nat} {co cu tr an sg am pv : Nat} {pre h : mHeap}  (hA : AI t r nm cnt rc rk co cu tr an sg am pv) (hW : MW fen t r nm cnt rc rk co cu tr an sg am pv pre h) (kP : ∀ (S : R8) (h' : mHeap), S = (sendF (selT nm) nm cnt rc rk co cu tr an sg am pv) → MW fen [] S.2.1 nm cnt rc rk co S.2.2.1 S.2.2.2.1 S.2.2.2.2.1 S.2.2.2.2.2.1 S.2.2.2.2.2.2.1 S.2.2.2.2.2.2.2 pre h' → AI [] S.2.1 nm cnt rc rk co S.2.2.1 S.2.2.2.1 S.2.2.2.2.1 S.2.2.2.2.2.1 S.2.2.2.2.2.2.1 S.2.2.2.2.2.2.2 → S.1 < 65536 → Post (some (.int (nI S.1))) h') : mMet M_Mod_sendSelect L xs (7, 167) 0 0 [.ref 24] h Post := by
  refine mMet_of rfl (Nat.le_of_ble_eq_true rfl) ?_
  refine mj_aload_n d_Mod_sendSelect_0 rfl ?_
  refine mj_sipush d_Mod_sendSelect_1 (nI 164) (by decide) ?_
  refine mj_iconst d_Mod_sendSelect_4 (nI 4) (by decide) ?_
  refine mj_iconst d_Mod_sendSelect_5 (nI 0) (by decide) ?_
  refine mj_bipush d_Mod_sendSelect_6 (nI 7) (by decide) ?_
  refine mj_virtual (d' := (1, 21)) (mc := 0) (ms := 0) (As := [_, _, _, _]) d_Mod_sendSelect_8 cw_Mod_begin q_727 q_729 qs_Mod_begin (ci := 6) rfl (MW_24 hW) rfl rfl (mRoomB rfl) ?_
  refine s_Mod_begin hW (by decide) (by decide) (fun h0 hW0 => ?_)
  refine mj_iconst d_Mod_sendSelect_11 (nI 0) (by decide) ?_
  refine mj_istore_n d_Mod_sendSelect_12 (by decide) ?_
  dsimp only [mSt1, mSt2, mKill, Nat.reduceAdd]
  exact lk_sel hA kP 7 0 h0 (by omega) (by rw [List.take_zero, List.append_nil]; exact hW0)
theorem s_Mod_sendReady {L : Nat} {xs : Nat → Int32} {Post : Option Value → mHeap → Prop} {fen : Nat → Int32} {t r nm : List Nat} {cnt : Nat → Nat} {rc : Nat → List Nat} {rk : Nat → Nat} {co cu tr an sg am pv : Nat} {pre h : mHeap} {a : Int64} (hA : AI t r nm cnt rc rk co cu tr an sg am pv) (hW : MW fen t r nm cnt rc rk co cu tr an sg am pv pre h) (kP : ∀ (S : R8) (h' : mHeap), S = (sendF (rdyT a) nm cnt rc rk co cu tr an sg am pv) → MW fen [] S.2.1 nm cnt rc rk co S.2.2.1 S.2.2.2.1 S.2.2.2.2.1 S.2.2.2.2.2.1 S.2.2.2.2.2.2.1 S.2.2.2.2.2.2.2 pre h' → AI [] S.2.1 nm cnt rc rk co S.2.2.1 S.2.2.2.1 S.2.2.2.2.1 S.2.2.2.2.2.1 S.2.2.2.2.2.2.1 S.2.2.2.2.2.2.2 → S.1 < 65536 → Post (some (.int (nI S.1))) h') : mMet M_Mod_sendReady L xs (7, 167) 0 0 [.ref 24, .long a] h Post := by
  refine mMet_of rfl (Nat.le_of_ble_eq_true rfl) ?_
  refine mj_aload_n d_Mod_sendReady_0 rfl ?_
  refine mj_ldc d_Mod_sendReady_1 (nI 32936) q_592 ?_
  refine mj_iconst d_Mod_sendReady_3 (nI 0) (by decide) ?_
  refine mj_iconst d_Mod_sendReady_4 (nI 0) (by decide) ?_
  refine mj_bipush d_Mod_sendReady_5 (nI 8) (by decide) ?_
  refine mj_virtual (d' := (1, 21)) (mc := 0) (ms := 0) (As := [_, _, _, _]) d_Mod_sendReady_7 cw_Mod_begin q_727 q_729 qs_Mod_begin (ci := 6) rfl (MW_24 hW) rfl rfl (mRoomB rfl) ?_
  refine s_Mod_begin hW (by decide) (by decide) (fun h0 hW0 => ?_)
  refine mj_aload_n d_Mod_sendReady_10 rfl ?_
  refine mj_sipush d_Mod_sendReady_11 (nI 131) (by decide) ?_
  refine mj_virtual (d' := (0, 0)) (mc := 0) (ms := 0) (As := [_]) d_Mod_sendReady_14 cw_Mod_type q_731 q_733 qs_Mod_type (ci := 6) rfl (MW_24 hW0) rfl rfl (mRoomB rfl) ?_
  refine m_type hW0 (by simp [headT]) (fun h1 hW1 => ?_)
  refine mj_aload_n d_Mod_sendReady_17 rfl ?_
  refine mj_bipush d_Mod_sendReady_18 (nI 6) (by decide) ?_
  refine mj_virtual (d' := (0, 0)) (mc := 0) (ms := 0) (As := [_]) d_Mod_sendReady_20 cw_Mod_type q_731 q_733 qs_Mod_type (ci := 6) rfl (MW_24 hW1) rfl rfl (mRoomB rfl) ?_
  refine m_type hW1 (by simp [headT]) (fun h2 hW2 => ?_)
  refine mj_aload_n d_Mod_sendReady_23 rfl ?_
  refine mj_lload_n d_Mod_sendReady_24 rfl ?_
  refine mj_virtual (d' := (1, 21)) (mc := 0) (ms := 0) (As := [_]) d_Mod_sendReady_25 cw_Mod_typeSix q_740 q_742 qs_Mod_typeSix (ci := 6) rfl (MW_24 hW2) rfl rfl (mRoomB rfl) ?_
  refine s_Mod_typeSix hW2 (by simp [headT]) (fun h3 hW3 => ?_)
  have e : headT 32936 0 0 8 ++ [131] ++ [6] ++ beL a 6 = rdyT a := by unfold rdyT; simp
  rw [e] at hW3
  refine mj_aload_n d_Mod_sendReady_28 rfl ?_
  refine mj_virtual (d' := (6, 146)) (mc := 0) (ms := 0) (As := []) d_Mod_sendReady_29 cw_Mod_send q_735 q_581 q_582 (ci := 6) rfl (MW_24 hW3) rfl rfl (mRoomB rfl) ?_
  refine s_Mod_send (t := rdyT a) (AI_t hA (rdyT_Bb a) (by simp [rdyT, headT, beL_len])) hW3 (fun S h4 hS hW4 hA4 hl4 => ?_)
  refine mj_iret d_Mod_sendReady_32 rfl rfl (Nat.le_refl _) (Nat.le_refl _) ?_
  exact kP S h4 hS hW4 hA4 hl4
theorem lk_prove {L : Nat} {xs : Nat → Int32} {Post : Option Value → mHeap → Prop} {fen : Nat → Int32} {t r nm : List Nat} {cnt : Nat → Nat} {rc : Nat → List Nat} {rk : Nat → Nat} {co cu tr an sg am pv : Nat} {pre : mHeap} {p : Nat} (hA : AI t r nm cnt rc rk co cu tr an sg am pv) (hp : p ≤ 9999) (kP : ∀ (S : R8) (h' : mHeap), S = (sendF (pinT p) nm cnt rc rk co cu tr an sg am pv) → MW fen [] S.2.1 nm cnt rc rk co S.2.2.1 S.2.2.2.1 S.2.2.2.2.1 S.2.2.2.2.2.1 S.2.2.2.2.2.2.1 S.2.2.2.2.2.2.2 pre h' → AI [] S.2.1 nm cnt rc rk co S.2.2.1 S.2.2.2.1 S.2.2.2.2.1 S.2.2.2.2.2.1 S.2.2.2.2.2.2.1 S.2.2.2.2.2.2.2 → S.1 < 65536 → Post (some (.int (nI S.1))) h') : ∀ (m i : Nat) (h : mHeap), i + m = 5 → MW fen (headT 32 0 128 8 ++ [36] ++ [p / 1000 * 16 + p / 100 % 10] ++ [p / 10 % 10 * 16 + p % 10] ++ ff5 i) r nm cnt rc rk co cu tr an sg am pv pre h → mGo M_Mod_sendProve L xs (7, 167) 0 0 Post 0 0 59 [some (.ref 24), some (.int (nI p)), some (.int (nI i))] [] h := by
  intro m
  induction m with
  | zero =>
    intro i h hi hW
    refine mj_iload_n d_Mod_sendProve_59 rfl ?_
    refine mj_iconst d_Mod_sendProve_60 (nI 5) (by decide) ?_
    refine mj_icmpgeN d_Mod_sendProve_61 77 rfl (by omega) (fun c_61 => ?_) (fun c_61 => ?_)
    · obtain rfl : i = 5 := by omega
      have e : headT 32 0 128 8 ++ [36] ++ [p / 1000 * 16 + p / 100 % 10] ++ [p / 10 % 10 * 16 + p % 10] ++ ff5 5 = pinT p := by unfold pinT; simp [ff5]
      rw [e] at hW
      refine mj_aload_n d_Mod_sendProve_77 rfl ?_
      refine mj_virtual (d' := (6, 146)) (mc := 0) (ms := 0) (As := []) d_Mod_sendProve_78 cw_Mod_send q_735 q_581 q_582 (ci := 6) rfl (MW_24 hW) rfl rfl (mRoomB rfl) ?_
      refine s_Mod_send (t := pinT p) (AI_t hA (pinT_Bb hp) (by simp [pinT, headT])) hW (fun S h1 hS hW1 hA1 hl1 => ?_)
      refine mj_iret d_Mod_sendProve_81 rfl rfl (Nat.le_refl _) (Nat.le_refl _) ?_
      exact kP S h1 hS hW1 hA1 hl1
    · omega
  | succ m ih =>
    intro i h hi hW
    refine mj_iload_n d_Mod_sendProve_59 rfl ?_
    refine mj_iconst d_Mod_sendProve_60 (nI 5) (by decide) ?_
    refine mj_icmpgeN d_Mod_sendProve_61 77 rfl (by omega) (fun c_61 => ?_) (fun c_61 => ?_)
    · omega
    · refine mj_aload_n d_Mod_sendProve_64 rfl ?_
      refine mj_sipush d_Mod_sendProve_65 (nI 255) (by decide) ?_
      refine mj_virtual (d' := (0, 0)) (mc := 0) (ms := 0) (As := [_]) d_Mod_sendProve_68 cw_Mod_type q_731 q_733 qs_Mod_type (ci := 6) rfl (MW_24 hW) rfl rfl (mRoomB rfl) ?_
      refine m_type hW (by simp [ff5_len, headT]; omega) (fun h1 hW1 => ?_)
      rw [List.append_assoc] at hW1
      refine mj_iinc d_Mod_sendProve_71 rfl (by decide) (nI (i + 1)) (nI_1 i) ?_
      dsimp only [mSt1, mSt2, mKill, Nat.reduceAdd]
      refine mj_goto d_Mod_sendProve_74 59 rfl ?_
      exact ih (i + 1) h1 (by omega) hW1
theorem s_Mod_sendProve {L : Nat} {xs : Nat → Int32} {Post : Option Value → mHeap → Prop} {fen : Nat → Int32} {t r nm : List Nat} {cnt : Nat → Nat} {rc : Nat → List Nat} {rk : Nat → Nat} {co cu tr an sg am pv : Nat} {pre h : mHeap} {p : Nat} (hA : AI t r nm cnt rc rk co cu tr an sg am pv) (hW : MW fen t r nm cnt rc rk co cu tr an sg am pv pre h) (hp : p ≤ 9999) (kP : ∀ (S : R8) (h' : mHeap), S = (sendF (pinT p) nm cnt rc rk co cu tr an sg am pv) → MW fen [] S.2.1 nm cnt rc rk co S.2.2.1 S.2.2.2.1 S.2.2.2.2.1 S.2.2.2.2.2.1 S.2.2.2.2.2.2.1 S.2.2.2.2.2.2.2 pre h' → AI [] S.2.1 nm cnt rc rk co S.2.2.1 S.2.2.2.1 S.2.2.2.2.1 S.2.2.2.2.2.1 S.2.2.2.2.2.2.1 S.2.2.2.2.2.2.2 → S.1 < 65536 → Post (some (.int (nI S.1))) h') : mMet M_Mod_sendProve L xs (7, 167) 0 0 [.ref 24, .int (nI p)] h Post := by
  refine mMet_of rfl (Nat.le_of_ble_eq_true rfl) ?_
  refine mj_aload_n d_Mod_sendProve_0 rfl ?_
  refine mj_bipush d_Mod_sendProve_1 (nI 32) (by decide) ?_
  refine mj_iconst d_Mod_sendProve_3 (nI 0) (by decide) ?_
  refine mj_sipush d_Mod_sendProve_4 (nI 128) (by decide) ?_
  refine mj_bipush d_Mod_sendProve_7 (nI 8) (by decide) ?_
  refine mj_virtual (d' := (1, 21)) (mc := 0) (ms := 0) (As := [_, _, _, _]) d_Mod_sendProve_9 cw_Mod_begin q_727 q_729 qs_Mod_begin (ci := 6) rfl (MW_24 hW) rfl rfl (mRoomB rfl) ?_
  refine s_Mod_begin hW (by decide) (by decide) (fun h0 hW0 => ?_)
  refine mj_aload_n d_Mod_sendProve_12 rfl ?_
  refine mj_bipush d_Mod_sendProve_13 (nI 36) (by decide) ?_
  refine mj_virtual (d' := (0, 0)) (mc := 0) (ms := 0) (As := [_]) d_Mod_sendProve_15 cw_Mod_type q_731 q_733 qs_Mod_type (ci := 6) rfl (MW_24 hW0) rfl rfl (mRoomB rfl) ?_
  refine m_type hW0 (by simp [headT]) (fun h1 hW1 => ?_)
  refine mj_aload_n d_Mod_sendProve_18 rfl ?_
  refine mj_iload_n d_Mod_sendProve_19 rfl ?_
  refine mj_sipush d_Mod_sendProve_20 (nI 1000) (by decide) ?_
  refine mj_idiv d_Mod_sendProve_23 (by decide) ?_
  rw [pk_div (by omega) (by decide) (by decide)]
  refine mj_bipush d_Mod_sendProve_24 (nI 16) (by decide) ?_
  refine mj_imul d_Mod_sendProve_26 ?_
  rw [pk_mul]
  refine mj_iload_n d_Mod_sendProve_27 rfl ?_
  refine mj_bipush d_Mod_sendProve_28 (nI 100) (by decide) ?_
  refine mj_idiv d_Mod_sendProve_30 (by decide) ?_
  rw [pk_div (by omega) (by decide) (by decide)]
  refine mj_bipush d_Mod_sendProve_31 (nI 10) (by decide) ?_
  refine mj_irem d_Mod_sendProve_33 (by decide) ?_
  rw [pk_rem (by omega) (by decide) (by decide)]
  refine mj_iadd d_Mod_sendProve_34 ?_
  rw [nI_add]
  refine mj_virtual (d' := (0, 0)) (mc := 0) (ms := 0) (As := [_]) d_Mod_sendProve_35 cw_Mod_type q_731 q_733 qs_Mod_type (ci := 6) rfl (MW_24 hW1) rfl rfl (mRoomB rfl) ?_
  refine m_type hW1 (by simp [headT]) (fun h2 hW2 => ?_)
  refine mj_aload_n d_Mod_sendProve_38 rfl ?_
  refine mj_iload_n d_Mod_sendProve_39 rfl ?_
  refine mj_bipush d_Mod_sendProve_40 (nI 10) (by decide) ?_
  refine mj_idiv d_Mod_sendProve_42 (by decide) ?_
  rw [pk_div (by omega) (by decide) (by decide)]
  refine mj_bipush d_Mod_sendProve_43 (nI 10) (by decide) ?_
  refine mj_irem d_Mod_sendProve_45 (by decide) ?_
  rw [pk_rem (by omega) (by decide) (by decide)]
  refine mj_bipush d_Mod_sendProve_46 (nI 16) (by decide) ?_
  refine mj_imul d_Mod_sendProve_48 ?_
  rw [pk_mul]
  refine mj_iload_n d_Mod_sendProve_49 rfl ?_
  refine mj_bipush d_Mod_sendProve_50 (nI 10) (by decide) ?_
  refine mj_irem d_Mod_sendProve_52 (by decide) ?_
  rw [pk_rem (by omega) (by decide) (by decide)]
  refine mj_iadd d_Mod_sendProve_53 ?_
  rw [nI_add]
  refine mj_virtual (d' := (0, 0)) (mc := 0) (ms := 0) (As := [_]) d_Mod_sendProve_54 cw_Mod_type q_731 q_733 qs_Mod_type (ci := 6) rfl (MW_24 hW2) rfl rfl (mRoomB rfl) ?_
  refine m_type hW2 (by simp [headT]) (fun h3 hW3 => ?_)
  refine mj_iconst d_Mod_sendProve_57 (nI 0) (by decide) ?_
  refine mj_istore_n d_Mod_sendProve_58 (by decide) ?_
  dsimp only [mSt1, mSt2, mKill, Nat.reduceAdd]
  exact lk_prove hA hp kP 5 0 h3 (by omega) (by rw [ff5, List.append_nil]; exact hW3)
/-- the row of a SEAL with more bytes behind it -/
def slM (w : Nat) (a : Int64) (n : Int32) (more : Nat) : List Nat := slT w a n (if more = 0 then 10 else 12) ++ (if more = 0 then [] else [more / 256, more % 256])
theorem slM_ok {w : Nat} {a : Int64} {n : Int32} {more : Nat} (hw : w < 256) (hm : more < 65536) : Bb (slM w a n more) ∧ (slM w a n more).length ≤ 40 := by
  have h1 := slT_len w a n 10
  have h2 := slT_len w a n 12
  unfold slM
  split
  · rw [List.append_nil]
    exact ⟨slT_Bb hw (by decide), by omega⟩
  · exact ⟨Bb_app (slT_Bb hw (by decide)) (Bb_cons (by omega) (Bb_cons (by omega) Bb_nil)), by simp; omega⟩
theorem lk_sl {L : Nat} {xs : Nat → Int32} {Post : Option Value → mHeap → Prop} {fen : Nat → Int32} {t r nm : List Nat} {cnt : Nat → Nat} {rc : Nat → List Nat} {rk : Nat → Nat} {co cu tr an sg am pv : Nat} {pre : mHeap} {w c more : Nat} {a : Int64} {n : Int32} (hA : AI t r nm cnt rc rk co cu tr an sg am pv) (hm : more < 65536) (hc : c = if more = 0 then 10 else 12) (kk : ∀ (h : mHeap) (w6 : Option Value), MW fen (slM w a n more) r nm cnt rc rk co cu tr an sg am pv pre h → mGo M_Mod_sendSeal L xs (7, 167) 0 0 Post 0 0 84 [some (.ref 24), some (.int (nI w)), some (.long a), none, some (.int n), some (.int (nI more)), w6] [] h) : ∀ (m i : Nat) (h : mHeap), i + m = 4 → MW fen (headT 32942 w 0 c ++ beL a 6 ++ (beL n.toInt64 4).take i) r nm cnt rc rk co cu tr an sg am pv pre h → mGo M_Mod_sendSeal L xs (7, 167) 0 0 Post 0 0 28 [some (.ref 24), some (.int (nI w)), some (.long a), none, some (.int n), some (.int (nI more)), some (.int (nI i))] [] h := by
  intro m
  induction m with
  | zero =>
    intro i h hi hW
    refine mj_iload d_Mod_sendSeal_28 rfl ?_
    refine mj_iconst d_Mod_sendSeal_30 (nI 4) (by decide) ?_
    refine mj_icmpgeN d_Mod_sendSeal_31 59 rfl (by omega) (fun c_31 => ?_) (fun c_31 => ?_)
    · rw [List.take_of_length_le (by rw [beL_len]; omega), List.append_assoc] at hW
      have hl := headT_len 32942 w 0 c
      refine mj_iload d_Mod_sendSeal_59 rfl ?_
      refine mj_ifleN d_Mod_sendSeal_61 84 rfl (by omega) (fun c_61 => ?_) (fun c_61 => ?_)
      · first
          | (have e : headT 32942 w 0 c ++ (beL a 6 ++ beL n.toInt64 4) ++ [more / 256] ++ [more % 256] = slM w a n more := by unfold slM slT; rw [hc, if_neg (by omega), if_neg (by omega), List.append_assoc]; rfl
             rw [e] at hW2; exact kk h2 _ hW2)
          | (have e : headT 32942 w 0 c ++ (beL a 6 ++ beL n.toInt64 4) = slM w a n more := by unfold slM slT; rw [hc, if_pos (by omega), if_pos (by omega), List.append_nil]
             rw [e] at hW; exact kk h _ hW)
      · refine mj_aload_n d_Mod_sendSeal_64 rfl ?_
        refine mj_iload d_Mod_sendSeal_65 rfl ?_
        refine mj_sipush d_Mod_sendSeal_67 (nI 256) (by decide) ?_
        refine mj_idiv d_Mod_sendSeal_70 (by decide) ?_
        rw [pk_div (by omega) (by decide) (by decide)]
        refine mj_virtual (d' := (0, 0)) (mc := 0) (ms := 0) (As := [_]) d_Mod_sendSeal_71 cw_Mod_type q_731 q_733 qs_Mod_type (ci := 6) rfl (MW_24 hW) rfl rfl (mRoomB rfl) ?_
        refine m_type hW (by simp [beL_len]; omega) (fun h1 hW1 => ?_)
        refine mj_aload_n d_Mod_sendSeal_74 rfl ?_
        refine mj_iload d_Mod_sendSeal_75 rfl ?_
        refine mj_sipush d_Mod_sendSeal_77 (nI 256) (by decide) ?_
        refine mj_irem d_Mod_sendSeal_80 (by decide) ?_
        rw [pk_rem (by omega) (by decide) (by decide)]
        refine mj_virtual (d' := (0, 0)) (mc := 0) (ms := 0) (As := [_]) d_Mod_sendSeal_81 cw_Mod_type q_731 q_733 qs_Mod_type (ci := 6) rfl (MW_24 hW1) rfl rfl (mRoomB rfl) ?_
        refine m_type hW1 (by simp [beL_len]; omega) (fun h2 hW2 => ?_)
        first
          | (have e : headT 32942 w 0 c ++ (beL a 6 ++ beL n.toInt64 4) ++ [more / 256] ++ [more % 256] = slM w a n more := by unfold slM slT; rw [hc, if_neg (by omega), if_neg (by omega), List.append_assoc]; rfl
             rw [e] at hW2; exact kk h2 _ hW2)
          | (have e : headT 32942 w 0 c ++ (beL a 6 ++ beL n.toInt64 4) = slM w a n more := by unfold slM slT; rw [hc, if_pos (by omega), if_pos (by omega), List.append_nil]
             rw [e] at hW; exact kk h _ hW)
    · omega
  | succ m ih =>
    intro i h hi hW
    refine mj_iload d_Mod_sendSeal_28 rfl ?_
    refine mj_iconst d_Mod_sendSeal_30 (nI 4) (by decide) ?_
    refine mj_icmpgeN d_Mod_sendSeal_31 59 rfl (by omega) (fun c_31 => ?_) (fun c_31 => ?_)
    · omega
    · refine mj_aload_n d_Mod_sendSeal_34 rfl ?_
      refine mj_iload d_Mod_sendSeal_35 rfl ?_
      refine mj_bipush d_Mod_sendSeal_37 (nI 24) (by decide) ?_
      refine mj_bipush d_Mod_sendSeal_39 (nI 8) (by decide) ?_
      refine mj_iload d_Mod_sendSeal_41 rfl ?_
      refine mj_imul d_Mod_sendSeal_43 ?_
      refine mj_isub d_Mod_sendSeal_44 ?_
      refine mj_ishr d_Mod_sendSeal_45 ?_
      refine mj_sipush d_Mod_sendSeal_46 (nI 255) (by decide) ?_
      refine mj_iand d_Mod_sendSeal_49 ?_
      rw [i_b3' _ _ (3 - i) (sh24 i (by omega)) (by omega), ← beL4_at (n := n) (i := i) (by omega)]
      refine mj_virtual (d' := (0, 0)) (mc := 0) (ms := 0) (As := [_]) d_Mod_sendSeal_50 cw_Mod_type q_731 q_733 qs_Mod_type (ci := 6) rfl (MW_24 hW) rfl rfl (mRoomB rfl) ?_
      refine m_type hW (by have := headT_len 32942 w 0 c; simp [beL_len]; omega) (fun h1 hW1 => ?_)
      rw [List.append_assoc, take_s (by rw [beL_len]; omega)] at hW1
      refine mj_iinc d_Mod_sendSeal_53 rfl (by decide) (nI (i + 1)) (nI_1 i) ?_
      dsimp only [mSt1, mSt2, mKill, Nat.reduceAdd]
      refine mj_goto d_Mod_sendSeal_56 28 rfl ?_
      exact ih (i + 1) h1 (by omega) hW1
theorem s_Mod_sendSeal {L : Nat} {xs : Nat → Int32} {Post : Option Value → mHeap → Prop} {fen : Nat → Int32} {t r nm : List Nat} {cnt : Nat → Nat} {rc : Nat → List Nat} {rk : Nat → Nat} {co cu tr an sg am pv : Nat} {pre h : mHeap} {w more : Nat} {a : Int64} {n : Int32} (hA : AI t r nm cnt rc rk co cu tr an sg am pv) (hW : MW fen t r nm cnt rc rk co cu tr an sg am pv pre h) (hw : w < 256) (hm : more < 65536) (kP : ∀ (S : R8) (h' : mHeap), S = (sendF (slM w a n more) nm cnt rc rk co cu tr an sg am pv) → MW fen [] S.2.1 nm cnt rc rk co S.2.2.1 S.2.2.2.1 S.2.2.2.2.1 S.2.2.2.2.2.1 S.2.2.2.2.2.2.1 S.2.2.2.2.2.2.2 pre h' → AI [] S.2.1 nm cnt rc rk co S.2.2.1 S.2.2.2.1 S.2.2.2.2.1 S.2.2.2.2.2.1 S.2.2.2.2.2.2.1 S.2.2.2.2.2.2.2 → S.1 < 65536 → Post (some (.int (nI S.1))) h') : mMet M_Mod_sendSeal L xs (7, 167) 0 0 [.ref 24, .int (nI w), .long a, .int n, .int (nI more)] h Post := by
  refine mMet_of rfl (Nat.le_of_ble_eq_true rfl) ?_
  refine mj_aload_n d_Mod_sendSeal_0 rfl ?_
  refine mj_ldc d_Mod_sendSeal_1 (nI 32942) q_594 ?_
  refine mj_iload_n d_Mod_sendSeal_3 rfl ?_
  refine mj_iconst d_Mod_sendSeal_4 (nI 0) (by decide) ?_
  refine mj_iload d_Mod_sendSeal_5 rfl ?_
  refine mj_ifleN d_Mod_sendSeal_7 15 rfl (by omega) (fun c_7 => ?_) (fun c_7 => ?_)
  · refine mj_bipush d_Mod_sendSeal_15 (nI 10) (by decide) ?_
    refine mj_virtual (d' := (1, 21)) (mc := 0) (ms := 0) (As := [_, _, _, _]) d_Mod_sendSeal_17 cw_Mod_begin q_727 q_729 qs_Mod_begin (ci := 6) rfl (MW_24 hW) rfl rfl (mRoomB rfl) ?_
    refine s_Mod_begin hW (by decide) (by decide) (fun h0 hW0 => ?_)
    refine mj_aload_n d_Mod_sendSeal_20 rfl ?_
    refine mj_lload_n d_Mod_sendSeal_21 rfl ?_
    refine mj_virtual (d' := (1, 21)) (mc := 0) (ms := 0) (As := [_]) d_Mod_sendSeal_22 cw_Mod_typeSix q_740 q_742 qs_Mod_typeSix (ci := 6) rfl (MW_24 hW0) rfl rfl (mRoomB rfl) ?_
    refine s_Mod_typeSix hW0 (by have := headT_len 32942 w 0 10; have := headT_len 32942 w 0 12; omega) (fun h1 hW1 => ?_)
    refine mj_iconst d_Mod_sendSeal_25 (nI 0) (by decide) ?_
    refine mj_istore d_Mod_sendSeal_26 (by decide) ?_
    dsimp only [mSt1, mSt2, mKill, Nat.reduceAdd]
    refine lk_sl hA hm (by first | rw [if_pos (by omega)] | rw [if_neg (by omega)]) (fun h2 w6 hW2 => ?_) 4 0 h1 (by omega) (by rw [List.take_zero, List.append_nil]; exact hW1)
    refine mj_aload_n d_Mod_sendSeal_84 rfl ?_
    refine mj_virtual (d' := (6, 146)) (mc := 0) (ms := 0) (As := []) d_Mod_sendSeal_85 cw_Mod_send q_735 q_581 q_582 (ci := 6) rfl (MW_24 hW2) rfl rfl (mRoomB rfl) ?_
    refine s_Mod_send (t := slM w a n more) (AI_t hA (slM_ok hw hm).1 (slM_ok hw hm).2) hW2 (fun S h3 hS hW3 hA3 hl3 => ?_)
    refine mj_iret d_Mod_sendSeal_88 rfl rfl (Nat.le_refl _) (Nat.le_refl _) ?_
    exact kP S h3 hS hW3 hA3 hl3
  · refine mj_bipush d_Mod_sendSeal_10 (nI 12) (by decide) ?_
    refine mj_goto d_Mod_sendSeal_12 17 rfl ?_
    refine mj_virtual (d' := (1, 21)) (mc := 0) (ms := 0) (As := [_, _, _, _]) d_Mod_sendSeal_17 cw_Mod_begin q_727 q_729 qs_Mod_begin (ci := 6) rfl (MW_24 hW) rfl rfl (mRoomB rfl) ?_
    refine s_Mod_begin hW (by decide) (by decide) (fun h0 hW0 => ?_)
    refine mj_aload_n d_Mod_sendSeal_20 rfl ?_
    refine mj_lload_n d_Mod_sendSeal_21 rfl ?_
    refine mj_virtual (d' := (1, 21)) (mc := 0) (ms := 0) (As := [_]) d_Mod_sendSeal_22 cw_Mod_typeSix q_740 q_742 qs_Mod_typeSix (ci := 6) rfl (MW_24 hW0) rfl rfl (mRoomB rfl) ?_
    refine s_Mod_typeSix hW0 (by have := headT_len 32942 w 0 10; have := headT_len 32942 w 0 12; omega) (fun h1 hW1 => ?_)
    refine mj_iconst d_Mod_sendSeal_25 (nI 0) (by decide) ?_
    refine mj_istore d_Mod_sendSeal_26 (by decide) ?_
    dsimp only [mSt1, mSt2, mKill, Nat.reduceAdd]
    refine lk_sl hA hm (by first | rw [if_pos (by omega)] | rw [if_neg (by omega)]) (fun h2 w6 hW2 => ?_) 4 0 h1 (by omega) (by rw [List.take_zero, List.append_nil]; exact hW1)
    refine mj_aload_n d_Mod_sendSeal_84 rfl ?_
    refine mj_virtual (d' := (6, 146)) (mc := 0) (ms := 0) (As := []) d_Mod_sendSeal_85 cw_Mod_send q_735 q_581 q_582 (ci := 6) rfl (MW_24 hW2) rfl rfl (mRoomB rfl) ?_
    refine s_Mod_send (t := slM w a n more) (AI_t hA (slM_ok hw hm).1 (slM_ok hw hm).2) hW2 (fun S h3 hS hW3 hA3 hl3 => ?_)
    refine mj_iret d_Mod_sendSeal_88 rfl rfl (Nat.le_refl _) (Nat.le_refl _) ?_
    exact kP S h3 hS hW3 hA3 hl3
theorem sV_neg {n : Nat} (hn : n < 2 ^ 31) : sV n < 0 ↔ n = 0 := by
  unfold sV
  split
  · next h => exact ⟨fun _ => h, fun _ => by decide⟩
  · next h => exact ⟨fun z => absurd z (nI_nn hn), fun z => absurd z h⟩
theorem i_ge0 {x : Int32} : 0 ≤ x ↔ ¬ x < 0 := by rw [Int32.lt_iff_toInt_lt, Int32.le_iff_toInt_le]; omega
theorem fV_sV (r : List Nat) (v : Int32) : fV r v = sV (fk r v) := rfl
theorem s_Mod_bytesOf {L : Nat} {xs : Nat → Int32} {Post : Option Value → mHeap → Prop} {fen : Nat → Int32} {t r nm : List Nat} {cnt : Nat → Nat} {rc : Nat → List Nat} {rk : Nat → Nat} {co cu tr an sg am pv : Nat} {pre h : mHeap} {v : Int32} {c : Nat} (hA : AI t r nm cnt rc rk co cu tr an sg am pv) (hW : MW fen t r nm cnt rc rk co cu tr an sg am pv pre h) (hc : c < 1000) (kP : ∀ h', MW fen t r nm cnt rc rk co cu tr an sg am pv pre h' → Post (some (.int (sV (szN r v c)))) h') : mMet M_Mod_bytesOf L xs (1, 28) 0 0 [.ref 24, .int v, .int (nI c)] h Post := by
  refine mMet_of rfl (Nat.le_of_ble_eq_true rfl) ?_
  have hsp := (fk_spec (l := r) (tag := v) (by have := hA.2.1.2; omega)).2
  have hrl := hA.2.1.2
  refine mj_aload_n d_Mod_bytesOf_0 rfl ?_
  refine mj_iload_n d_Mod_bytesOf_1 rfl ?_
  refine mj_virtual (d' := (0, 0)) (mc := 0) (ms := 0) (As := [_]) d_Mod_bytesOf_2 cw_Mod_find q_712 q_680 q_681 (ci := 6) rfl (MW_24 hW) rfl rfl (mRoomB rfl) ?_
  refine s_Mod_find hA hW (fun h1 hW1 => ?_)
  rw [fV_sV]
  refine mj_istore_n d_Mod_bytesOf_5 (by decide) ?_
  dsimp only [mSt1, mSt2, mKill, Nat.reduceAdd]
  refine mj_iload_n d_Mod_bytesOf_6 rfl ?_
  refine mj_iflt d_Mod_bytesOf_7 26 rfl (fun c_7 => ?_) (fun c_7 => ?_)
  · refine mj_iconst d_Mod_bytesOf_26 (-1) (by decide) ?_
    refine mj_iret d_Mod_bytesOf_27 rfl rfl (Nat.le_refl _) (Nat.le_refl _) ?_
    first
      | (rw [sV_neg (by omega)] at c_7
         have e : sV (szN r v c) = -1 := by unfold szN; rw [if_neg (fun z => z.1 c_7)]; rfl
         rw [e] at kP; exact kP _ hW1)
      | (have e : sV (szN r v c) = nI (fk r v) := by unfold szN; rw [if_pos ⟨c_7, c_19⟩, hfv]
         rw [e] at kP; exact kP _ hW1)
      | (have e : sV (szN r v c) = -1 := by unfold szN; rw [if_neg (fun z => c_19 z.2)]; rfl
         rw [e] at kP; exact kP _ hW1)
  · rw [sV_neg (by omega)] at c_7
    have hfv : sV (fk r v) = nI (fk r v) := by rw [sV, if_neg c_7]
    rw [hfv]
    obtain ⟨fo, h32, hr⟩ := MW_32 hW1
    refine mj_aload_n d_Mod_bytesOf_10 rfl ?_
    refine mj_get d_Mod_bytesOf_11 fd_Mod_35 (MW_24 hW1) rfl ?_
    refine mj_iload_n d_Mod_bytesOf_14 rfl ?_
    refine mj_iconst d_Mod_bytesOf_15 (nI 1) (by decide) ?_
    refine mj_isub d_Mod_bytesOf_16 ?_
    rw [pk_sub (by omega)]
    refine mj_ialdN d_Mod_bytesOf_17 h32 (by omega) ?_
    rw [hr _ (by omega)]
    refine mj_iload_n d_Mod_bytesOf_18 rfl ?_
    refine mj_icmpneN d_Mod_bytesOf_19 26 rfl (by have := getD_lt hA.2.1.1 (fk r v - 1); omega) (fun c_19 => ?_) (fun c_19 => ?_)
    · refine mj_iconst d_Mod_bytesOf_26 (-1) (by decide) ?_
      refine mj_iret d_Mod_bytesOf_27 rfl rfl (Nat.le_refl _) (Nat.le_refl _) ?_
      first
        | (rw [sV_neg (by omega)] at c_7
           have e : sV (szN r v c) = -1 := by unfold szN; rw [if_neg (fun z => z.1 c_7)]; rfl
           rw [e] at kP; exact kP _ hW1)
        | (have e : sV (szN r v c) = nI (fk r v) := by unfold szN; rw [if_pos ⟨c_7, c_19⟩, hfv]
           rw [e] at kP; exact kP _ hW1)
        | (have e : sV (szN r v c) = -1 := by unfold szN; rw [if_neg (fun z => c_19 z.2)]; rfl
           rw [e] at kP; exact kP _ hW1)
    · refine mj_iload_n d_Mod_bytesOf_22 rfl ?_
      refine mj_goto d_Mod_bytesOf_23 27 rfl ?_
      refine mj_iret d_Mod_bytesOf_27 rfl rfl (Nat.le_refl _) (Nat.le_refl _) ?_
      first
        | (rw [sV_neg (by omega)] at c_7
           have e : sV (szN r v c) = -1 := by unfold szN; rw [if_neg (fun z => z.1 c_7)]; rfl
           rw [e] at kP; exact kP _ hW1)
        | (have e : sV (szN r v c) = nI (fk r v) := by unfold szN; rw [if_pos ⟨c_7, c_19⟩, hfv]
           rw [e] at kP; exact kP _ hW1)
        | (have e : sV (szN r v c) = -1 := by unfold szN; rw [if_neg (fun z => c_19 z.2)]; rfl
           rw [e] at kP; exact kP _ hW1)
theorem s_Mod_cryptogram {L : Nat} {xs : Nat → Int32} {Post : Option Value → mHeap → Prop} {fen : Nat → Int32} {t r nm : List Nat} {cnt : Nat → Nat} {rc : Nat → List Nat} {rk : Nat → Nat} {co cu tr an sg am pv : Nat} {pre h : mHeap}  (hA : AI t r nm cnt rc rk co cu tr an sg am pv) (hW : MW fen t r nm cnt rc rk co cu tr an sg am pv pre h) (hfk : fk r (nI 40743) < r.length ∨ fk r (nI 40743) = 0) (kP : ∀ h', MW fen t r nm cnt rc rk co cu tr an sg am pv pre h' → Post (some (.int (atV r (fV r (nI 40743))))) h') : mMet M_Mod_cryptogram L xs (1, 28) 0 0 [.ref 24] h Post := by
  refine mMet_of rfl (Nat.le_of_ble_eq_true rfl) ?_
  have hrl := hA.2.1.2
  refine mj_aload_n d_Mod_cryptogram_0 rfl ?_
  refine mj_ldc d_Mod_cryptogram_1 (nI 40743) q_707 ?_
  refine mj_virtual (d' := (0, 0)) (mc := 0) (ms := 0) (As := [_]) d_Mod_cryptogram_3 cw_Mod_find q_712 q_680 q_681 (ci := 6) rfl (MW_24 hW) rfl rfl (mRoomB rfl) ?_
  refine s_Mod_find hA hW (fun h1 hW1 => ?_)
  rw [fV_sV]
  refine mj_istore_n d_Mod_cryptogram_6 (by decide) ?_
  dsimp only [mSt1, mSt2, mKill, Nat.reduceAdd]
  refine mj_iload_n d_Mod_cryptogram_7 rfl ?_
  refine mj_ifge d_Mod_cryptogram_8 15 rfl (fun c_8 => ?_) (fun c_8 => ?_)
  · rw [i_ge0, sV_neg (by omega)] at c_8
    have hfv : fV r (nI 40743) = nI (fk r (nI 40743)) := by rw [fV, if_neg c_8]
    rw [hfv, atV_in (by omega) (by omega)] at kP
    rw [← fV_sV, hfv]
    obtain ⟨fo, h32, hr⟩ := MW_32 hW1
    refine mj_aload_n d_Mod_cryptogram_15 rfl ?_
    refine mj_get d_Mod_cryptogram_16 fd_Mod_35 (MW_24 hW1) rfl ?_
    refine mj_iload_n d_Mod_cryptogram_19 rfl ?_
    refine mj_ialdN d_Mod_cryptogram_20 h32 (by omega) ?_
    rw [hr _ (by omega)]
    refine mj_iret d_Mod_cryptogram_21 rfl rfl (Nat.le_refl _) (Nat.le_refl _) ?_
    first
      | exact kP _ hW1
      | (rw [i_ge0, sV_neg (by omega), Decidable.not_not] at c_8
         have e : atV r (fV r (nI 40743)) = -1 := by rw [fV, if_pos c_8]; rfl
         rw [e] at kP; exact kP _ hW1)
  · refine mj_iconst d_Mod_cryptogram_11 (-1) (by decide) ?_
    refine mj_goto d_Mod_cryptogram_12 21 rfl ?_
    refine mj_iret d_Mod_cryptogram_21 rfl rfl (Nat.le_refl _) (Nat.le_refl _) ?_
    first
      | exact kP _ hW1
      | (rw [i_ge0, sV_neg (by omega), Decidable.not_not] at c_8
         have e : atV r (fV r (nI 40743)) = -1 := by rw [fV, if_pos c_8]; rfl
         rw [e] at kP; exact kP _ hW1)
theorem lk_genuine {L : Nat} {xs : Nat → Int32} {Post : Option Value → mHeap → Prop} {t r : List Nat} {cu tr an sg am pv : Nat} {fr fo : Nat → Int32} {h : mHeap} {fkey fdig fnm frc frl frb fen fta frd fbl fmo fse fre fma fend : Nat → Int32} {s : Nat → Nat} {a : Int64} {n : Int32} {pv2 z : Nat} {w5 w6 : Option Value} (hB : MB h fkey fdig fnm frc frl frb fen fta frd fbl fmo fse fre fma fend) (hr : Rf r fo) (hbr : Bb r) (hrl : r.length ≤ 32) (hz : z + 8 ≤ r.length) (hs : FA 16 s fre) (hbs : Bt 16 s) (kF : (¬ ∀ j, j < 8 → r.getD (z + j) 0 = s j) → Post (some (.int (nI 0))) (pP h (cMod cu tr an sg am pv t.length r.length) fr fo)) (kT : (∀ j, j < 8 → r.getD (z + j) 0 = s j) → Post (some (.int (nI 1))) (pP h (cMod cu tr an sg am pv t.length r.length) fr fo)) : ∀ (m i b : Nat), i + m = 8 → b ≤ 1 → (b = 1 ↔ True ∧ ∀ j, j < i → r.getD (z + j) 0 = s j) → mGo M_Mod_genuine L xs (4, 102) 0 0 Post 0 0 112 [some (.ref 24), some (.long a), none, some (.int n), some (.int (nI pv2)), w5, w6, some (.int (nI z)), some (.int (nI b)), some (.int (nI i))] [] (pP h (cMod cu tr an sg am pv t.length r.length) fr fo) := by
  intro m
  induction m with
  | zero =>
    intro i b hi hb h1
    obtain rfl : i = 8 := by omega
    rcases (show b = 0 ∨ b = 1 by omega) with rfl | rfl
    · refine mj_iload d_Mod_genuine_112 rfl ?_
      refine mj_bipush d_Mod_genuine_114 (nI 8) (by decide) ?_
      refine mj_icmpgeN d_Mod_genuine_116 157 rfl (by omega) (fun c_116 => ?_) (fun c_116 => ?_)
      · refine mj_iload d_Mod_genuine_157 rfl ?_
        refine mj_iret d_Mod_genuine_159 rfl (by decide) (Nat.le_refl _) (Nat.le_refl _) ?_
        first
          | exact kT (h1.mp rfl).2
          | exact kF (fun z => by have := h1.mpr ⟨trivial, z⟩; omega)
      · omega
    · refine mj_iload d_Mod_genuine_112 rfl ?_
      refine mj_bipush d_Mod_genuine_114 (nI 8) (by decide) ?_
      refine mj_icmpgeN d_Mod_genuine_116 157 rfl (by omega) (fun c_116 => ?_) (fun c_116 => ?_)
      · refine mj_iload d_Mod_genuine_157 rfl ?_
        refine mj_iret d_Mod_genuine_159 rfl (by decide) (Nat.le_refl _) (Nat.le_refl _) ?_
        first
          | exact kT (h1.mp rfl).2
          | exact kF (fun z => by have := h1.mpr ⟨trivial, z⟩; omega)
      · omega
  | succ m ih =>
    intro i b hi hb h1
    refine mj_iload d_Mod_genuine_112 rfl ?_
    refine mj_bipush d_Mod_genuine_114 (nI 8) (by decide) ?_
    refine mj_icmpgeN d_Mod_genuine_116 157 rfl (by omega) (fun c_116 => ?_) (fun c_116 => ?_)
    · omega
    · refine mj_iload d_Mod_genuine_119 rfl ?_
      refine mj_ifeqN d_Mod_genuine_121 148 rfl (by omega) (fun c_121 => ?_) (fun c_121 => ?_)
      · refine mj_iconst d_Mod_genuine_148 (nI 0) (by decide) ?_
        refine mj_istore d_Mod_genuine_149 (by decide) ?_
        dsimp only [mSt1, mSt2, mKill, Nat.reduceAdd]
        refine mj_iinc d_Mod_genuine_151 rfl (by decide) (nI (i + 1)) (nI_1 i) ?_
        dsimp only [mSt1, mSt2, mKill, Nat.reduceAdd]
        refine mj_goto d_Mod_genuine_154 112 rfl ?_
        exact ih (i + 1) _ (by omega) (by omega) (all_s h1 (by omega))
      · refine mj_aload_n d_Mod_genuine_124 rfl ?_
        refine mj_get d_Mod_genuine_125 fd_Mod_35 (pP_24 hB.1) rfl ?_
        refine mj_iload d_Mod_genuine_128 rfl ?_
        refine mj_iload d_Mod_genuine_130 rfl ?_
        refine mj_iadd d_Mod_genuine_132 ?_
        rw [nI_add]
        refine mj_ialdN d_Mod_genuine_133 (pP_32 hB.2.2.1) (by omega) ?_
        rw [hr _ (by omega)]
        refine mj_aload_n d_Mod_genuine_134 rfl ?_
        refine mj_get d_Mod_genuine_135 fd_Mod_56 (pP_24 hB.1) rfl ?_
        refine mj_iload d_Mod_genuine_138 rfl ?_
        refine mj_ialdN d_Mod_genuine_140 (pP_get hB.2.2.2.2.2.2.2.2.2.2.2.2.2.2.2.1 (by decide) (by decide) (by decide)) (by omega) ?_
        rw [hs _ (by omega)]
        refine mj_icmpneN d_Mod_genuine_141 148 rfl (by have := getD_lt hbr (z + i); have := hbs i (by omega); omega) (fun c_141 => ?_) (fun c_141 => ?_)
        · refine mj_iconst d_Mod_genuine_148 (nI 0) (by decide) ?_
          refine mj_istore d_Mod_genuine_149 (by decide) ?_
          dsimp only [mSt1, mSt2, mKill, Nat.reduceAdd]
          refine mj_iinc d_Mod_genuine_151 rfl (by decide) (nI (i + 1)) (nI_1 i) ?_
          dsimp only [mSt1, mSt2, mKill, Nat.reduceAdd]
          refine mj_goto d_Mod_genuine_154 112 rfl ?_
          exact ih (i + 1) _ (by omega) (by omega) (all_s h1 (by omega))
        · refine mj_iconst d_Mod_genuine_144 (nI 1) (by decide) ?_
          refine mj_goto d_Mod_genuine_145 149 rfl ?_
          refine mj_istore d_Mod_genuine_149 (by decide) ?_
          dsimp only [mSt1, mSt2, mKill, Nat.reduceAdd]
          refine mj_iinc d_Mod_genuine_151 rfl (by decide) (nI (i + 1)) (nI_1 i) ?_
          dsimp only [mSt1, mSt2, mKill, Nat.reduceAdd]
          refine mj_goto d_Mod_genuine_154 112 rfl ?_
          exact ih (i + 1) _ (by omega) (by omega) (all_s h1 (by omega))
theorem s_Mod_genuine {L : Nat} {xs : Nat → Int32} {Post : Option Value → mHeap → Prop} {fen : Nat → Int32} {t r nm : List Nat} {cnt : Nat → Nat} {rc : Nat → List Nat} {rk : Nat → Nat} {co cu tr an sg am pv : Nat} {pre h : mHeap} {a : Int64} {n : Int32} {pv2 : Nat} (hA : AI t r nm cnt rc rk co cu tr an sg am pv) (hW : MW fen t r nm cnt rc rk co cu tr an sg am pv pre h) (hpv2 : pv2 < 2) (kP : ∀ h', MW fen t r nm cnt rc rk co cu tr an sg am pv pre h' → Post (some (.int (nI (genN rk r a n pv2)))) h') : mMet M_Mod_genuine L xs (4, 102) 0 0 [.ref 24, .long a, .int n, .int (nI pv2)] h Post := by
  refine mMet_of rfl (Nat.le_of_ble_eq_true rfl) ?_
  have hrl := hA.2.1.2
  have hz1 := szN_spec (r := r) (tag := nI 40743) (c := 1) (by omega)
  have hz2 := szN_spec (r := r) (tag := nI 40758) (c := 2) (by omega)
  have hz3 := szN_spec (r := r) (tag := nI 40742) (c := 8) (by omega)
  refine mj_aload_n d_Mod_genuine_0 rfl ?_
  refine mj_ldc d_Mod_genuine_1 (nI 40743) q_707 ?_
  refine mj_iconst d_Mod_genuine_3 (nI 1) (by decide) ?_
  refine mj_virtual (d' := (1, 28)) (mc := 0) (ms := 0) (As := [_, _]) d_Mod_genuine_4 cw_Mod_bytesOf q_708 q_710 qs_Mod_bytesOf (ci := 6) rfl (MW_24 hW) rfl rfl (mRoomB rfl) ?_
  refine s_Mod_bytesOf hA hW (by decide) (fun h1 hW1 => ?_)
  refine mj_istore d_Mod_genuine_7 (by decide) ?_
  dsimp only [mSt1, mSt2, mKill, Nat.reduceAdd]
  refine mj_aload_n d_Mod_genuine_9 rfl ?_
  refine mj_ldc d_Mod_genuine_10 (nI 40758) q_713 ?_
  refine mj_iconst d_Mod_genuine_12 (nI 2) (by decide) ?_
  refine mj_virtual (d' := (1, 28)) (mc := 0) (ms := 0) (As := [_, _]) d_Mod_genuine_13 cw_Mod_bytesOf q_708 q_710 qs_Mod_bytesOf (ci := 6) rfl (MW_24 hW1) rfl rfl (mRoomB rfl) ?_
  refine s_Mod_bytesOf hA hW1 (by decide) (fun h2 hW2 => ?_)
  refine mj_istore d_Mod_genuine_16 (by decide) ?_
  dsimp only [mSt1, mSt2, mKill, Nat.reduceAdd]
  refine mj_aload_n d_Mod_genuine_18 rfl ?_
  refine mj_ldc d_Mod_genuine_19 (nI 40742) q_714 ?_
  refine mj_bipush d_Mod_genuine_21 (nI 8) (by decide) ?_
  refine mj_virtual (d' := (1, 28)) (mc := 0) (ms := 0) (As := [_, _]) d_Mod_genuine_23 cw_Mod_bytesOf q_708 q_710 qs_Mod_bytesOf (ci := 6) rfl (MW_24 hW2) rfl rfl (mRoomB rfl) ?_
  refine s_Mod_bytesOf hA hW2 (by decide) (fun h3 hW3 => ?_)
  refine mj_istore d_Mod_genuine_26 (by decide) ?_
  dsimp only [mSt1, mSt2, mKill, Nat.reduceAdd]
  refine mj_lload_n d_Mod_genuine_28 rfl ?_
  refine mj_static (d' := (0, 0)) (mc := 0) (ms := 0) (As := [_]) d_Mod_genuine_29 cw_Mod_isAmount q_715 q_716 rfl rfl (mRoomB rfl) ?_
  refine s_Mod_isAmount ?_
  refine mj_ifeqN d_Mod_genuine_32 68 rfl (by split <;> omega) (fun c_32 => ?_) (fun c_32 => ?_)
  · refine mj_iconst d_Mod_genuine_68 (nI 0) (by decide) ?_
    refine mj_iret d_Mod_genuine_69 rfl (by decide) (Nat.le_refl _) (Nat.le_refl _) ?_
    first
      | (have na : ¬ amtOk a := fun z => by rw [if_pos z] at c_32; omega
         rw [genN, if_neg (fun z => na z.1)] at kP; exact kP _ hW3)
      | (rw [genN, if_neg (fun z => by have q := z.2.1; rw [List.eq_nil_of_length_eq_zero c_39] at q; exact absurd q (by decide))] at kP; exact kP _ hW3)
      | (rw [genN, if_neg (fun z => c_50 z.2.1)] at kP; exact kP _ hW3)
      | (rw [i_ge0, Decidable.not_not, sV_neg (by omega)] at c_65
         rw [genN, if_neg (fun z => z.2.2.2.2.1 c_65)] at kP; exact kP _ hW3)
      | (have q : szN r (nI 40758) 2 = 0 := (sV_neg (by omega)).mp c_60; rw [genN, if_neg (fun z => z.2.2.2.1 q)] at kP; exact kP _ hW3)
      | (have q : szN r (nI 40743) 1 = 0 := (sV_neg (by omega)).mp c_55; rw [genN, if_neg (fun z => z.2.2.1 q)] at kP; exact kP _ hW3)
  · refine mj_aload_n d_Mod_genuine_35 rfl ?_
    refine mj_get d_Mod_genuine_36 fd_Mod_100 (MW_24 hW3) rfl ?_
    refine mj_ifeqN d_Mod_genuine_39 68 rfl (by omega) (fun c_39 => ?_) (fun c_39 => ?_)
    · refine mj_iconst d_Mod_genuine_68 (nI 0) (by decide) ?_
      refine mj_iret d_Mod_genuine_69 rfl (by decide) (Nat.le_refl _) (Nat.le_refl _) ?_
      first
        | (have na : ¬ amtOk a := fun z => by rw [if_pos z] at c_32; omega
           rw [genN, if_neg (fun z => na z.1)] at kP; exact kP _ hW3)
        | (rw [genN, if_neg (fun z => by have q := z.2.1; rw [List.eq_nil_of_length_eq_zero c_39] at q; exact absurd q (by decide))] at kP; exact kP _ hW3)
        | (rw [genN, if_neg (fun z => c_50 z.2.1)] at kP; exact kP _ hW3)
        | (rw [i_ge0, Decidable.not_not, sV_neg (by omega)] at c_65
           rw [genN, if_neg (fun z => z.2.2.2.2.1 c_65)] at kP; exact kP _ hW3)
        | (have q : szN r (nI 40758) 2 = 0 := (sV_neg (by omega)).mp c_60; rw [genN, if_neg (fun z => z.2.2.2.1 q)] at kP; exact kP _ hW3)
        | (have q : szN r (nI 40743) 1 = 0 := (sV_neg (by omega)).mp c_55; rw [genN, if_neg (fun z => z.2.2.1 q)] at kP; exact kP _ hW3)
    · obtain ⟨fo, h32, hr⟩ := MW_32 hW3
      refine mj_aload_n d_Mod_genuine_42 rfl ?_
      refine mj_get d_Mod_genuine_43 fd_Mod_35 (MW_24 hW3) rfl ?_
      refine mj_iconst d_Mod_genuine_46 (nI 0) (by decide) ?_
      refine mj_ialdN d_Mod_genuine_47 h32 (by omega) ?_
      rw [hr _ (by omega)]
      refine mj_bipush d_Mod_genuine_48 (nI 119) (by decide) ?_
      refine mj_icmpneN d_Mod_genuine_50 68 rfl (by have := getD_lt hA.2.1.1 0; omega) (fun c_50 => ?_) (fun c_50 => ?_)
      · refine mj_iconst d_Mod_genuine_68 (nI 0) (by decide) ?_
        refine mj_iret d_Mod_genuine_69 rfl (by decide) (Nat.le_refl _) (Nat.le_refl _) ?_
        first
          | (have na : ¬ amtOk a := fun z => by rw [if_pos z] at c_32; omega
             rw [genN, if_neg (fun z => na z.1)] at kP; exact kP _ hW3)
          | (rw [genN, if_neg (fun z => by have q := z.2.1; rw [List.eq_nil_of_length_eq_zero c_39] at q; exact absurd q (by decide))] at kP; exact kP _ hW3)
          | (rw [genN, if_neg (fun z => c_50 z.2.1)] at kP; exact kP _ hW3)
          | (rw [i_ge0, Decidable.not_not, sV_neg (by omega)] at c_65
             rw [genN, if_neg (fun z => z.2.2.2.2.1 c_65)] at kP; exact kP _ hW3)
          | (have q : szN r (nI 40758) 2 = 0 := (sV_neg (by omega)).mp c_60; rw [genN, if_neg (fun z => z.2.2.2.1 q)] at kP; exact kP _ hW3)
          | (have q : szN r (nI 40743) 1 = 0 := (sV_neg (by omega)).mp c_55; rw [genN, if_neg (fun z => z.2.2.1 q)] at kP; exact kP _ hW3)
      · refine mj_iload d_Mod_genuine_53 rfl ?_
        refine mj_iflt d_Mod_genuine_55 68 rfl (fun c_55 => ?_) (fun c_55 => ?_)
        · refine mj_iconst d_Mod_genuine_68 (nI 0) (by decide) ?_
          refine mj_iret d_Mod_genuine_69 rfl (by decide) (Nat.le_refl _) (Nat.le_refl _) ?_
          first
            | (have na : ¬ amtOk a := fun z => by rw [if_pos z] at c_32; omega
               rw [genN, if_neg (fun z => na z.1)] at kP; exact kP _ hW3)
            | (rw [genN, if_neg (fun z => by have q := z.2.1; rw [List.eq_nil_of_length_eq_zero c_39] at q; exact absurd q (by decide))] at kP; exact kP _ hW3)
            | (rw [genN, if_neg (fun z => c_50 z.2.1)] at kP; exact kP _ hW3)
            | (rw [i_ge0, Decidable.not_not, sV_neg (by omega)] at c_65
               rw [genN, if_neg (fun z => z.2.2.2.2.1 c_65)] at kP; exact kP _ hW3)
            | (have q : szN r (nI 40758) 2 = 0 := (sV_neg (by omega)).mp c_60; rw [genN, if_neg (fun z => z.2.2.2.1 q)] at kP; exact kP _ hW3)
            | (have q : szN r (nI 40743) 1 = 0 := (sV_neg (by omega)).mp c_55; rw [genN, if_neg (fun z => z.2.2.1 q)] at kP; exact kP _ hW3)
        · refine mj_iload d_Mod_genuine_58 rfl ?_
          refine mj_iflt d_Mod_genuine_60 68 rfl (fun c_60 => ?_) (fun c_60 => ?_)
          · refine mj_iconst d_Mod_genuine_68 (nI 0) (by decide) ?_
            refine mj_iret d_Mod_genuine_69 rfl (by decide) (Nat.le_refl _) (Nat.le_refl _) ?_
            first
              | (have na : ¬ amtOk a := fun z => by rw [if_pos z] at c_32; omega
                 rw [genN, if_neg (fun z => na z.1)] at kP; exact kP _ hW3)
              | (rw [genN, if_neg (fun z => by have q := z.2.1; rw [List.eq_nil_of_length_eq_zero c_39] at q; exact absurd q (by decide))] at kP; exact kP _ hW3)
              | (rw [genN, if_neg (fun z => c_50 z.2.1)] at kP; exact kP _ hW3)
              | (rw [i_ge0, Decidable.not_not, sV_neg (by omega)] at c_65
                 rw [genN, if_neg (fun z => z.2.2.2.2.1 c_65)] at kP; exact kP _ hW3)
              | (have q : szN r (nI 40758) 2 = 0 := (sV_neg (by omega)).mp c_60; rw [genN, if_neg (fun z => z.2.2.2.1 q)] at kP; exact kP _ hW3)
              | (have q : szN r (nI 40743) 1 = 0 := (sV_neg (by omega)).mp c_55; rw [genN, if_neg (fun z => z.2.2.1 q)] at kP; exact kP _ hW3)
          · refine mj_iload d_Mod_genuine_63 rfl ?_
            refine mj_ifge d_Mod_genuine_65 70 rfl (fun c_65 => ?_) (fun c_65 => ?_)
            · rw [sV_neg (by omega)] at c_55 c_60
              rw [i_ge0, sV_neg (by omega)] at c_65
              have ha : amtOk a := Decidable.byContradiction (fun z => by rw [if_neg z] at c_32; omega)
              have e1 : sV (szN r (nI 40743) 1) = nI (szN r (nI 40743) 1) := by rw [sV, if_neg c_55]
              have e2 : sV (szN r (nI 40758) 2) = nI (szN r (nI 40758) 2) := by rw [sV, if_neg c_60]
              have e3 : sV (szN r (nI 40742) 8) = nI (szN r (nI 40742) 8) := by rw [sV, if_neg c_65]
              rw [e1, e2, e3]
              have b1 := getD_lt hA.2.1.1 (szN r (nI 40758) 2)
              have b2 := getD_lt hA.2.1.1 (szN r (nI 40758) 2 + 1)
              have b3 := getD_lt hA.2.1.1 (szN r (nI 40743) 1)
              clear h32 hr
              obtain ⟨h0, fkey, fdig, fnm, frc, frl, frb, fta, frd, fbl, fmo, fse, fre, fma, fend, fr, fo, ⟨ht, hr, hnm, hdg, hF, hta, hrd⟩, hB, hq, rfl⟩ := hW3
              refine mj_aload_n d_Mod_genuine_70 rfl ?_
              refine mj_lload_n d_Mod_genuine_71 rfl ?_
              refine mj_iload_n d_Mod_genuine_72 rfl ?_
              refine mj_sipush d_Mod_genuine_73 (nI 256) (by decide) ?_
              refine mj_aload_n d_Mod_genuine_76 rfl ?_
              refine mj_get d_Mod_genuine_77 fd_Mod_35 (pP_24 hB.1) rfl ?_
              refine mj_iload d_Mod_genuine_80 rfl ?_
              refine mj_ialdN d_Mod_genuine_82 (pP_32 hB.2.2.1) (by omega) ?_
              rw [hr _ (by omega)]
              refine mj_imul d_Mod_genuine_83 ?_
              rw [pk_mul]
              refine mj_aload_n d_Mod_genuine_84 rfl ?_
              refine mj_get d_Mod_genuine_85 fd_Mod_35 (pP_24 hB.1) rfl ?_
              refine mj_iload d_Mod_genuine_88 rfl ?_
              refine mj_iconst d_Mod_genuine_90 (nI 1) (by decide) ?_
              refine mj_iadd d_Mod_genuine_91 ?_
              rw [nI_add]
              refine mj_ialdN d_Mod_genuine_92 (pP_32 hB.2.2.1) (by omega) ?_
              rw [hr _ (by omega)]
              refine mj_iadd d_Mod_genuine_93 ?_
              rw [nI_add]
              refine mj_aload_n d_Mod_genuine_94 rfl ?_
              refine mj_get d_Mod_genuine_95 fd_Mod_35 (pP_24 hB.1) rfl ?_
              refine mj_iload d_Mod_genuine_98 rfl ?_
              refine mj_ialdN d_Mod_genuine_100 (pP_32 hB.2.2.1) (by omega) ?_
              rw [hr _ (by omega)]
              refine mj_iload d_Mod_genuine_101 rfl ?_
              refine mj_virtual (d' := (3, 75)) (mc := 0) (ms := 0) (As := [_, _, _, _, _]) d_Mod_genuine_103 cw_Mod_sealPayment q_654 q_656 qs_Mod_sealPayment (ci := 6) rfl (pP_24 hB.1) rfl rfl (mRoomB rfl) ?_
              refine s_Mod_sealPayment (pP_24 hB.1) (pP_get hB.2.2.2.2.2.2.2.2.2.2.1 (by decide) (by decide) (by decide)) (pP_get hB.2.2.2.2.2.2.2.2.2.2.2.1 (by decide) (by decide) (by decide)) (pP_get hB.2.2.2.2.2.2.2.2.2.2.2.2.1 (by decide) (by decide) (by decide)) (pP_get hB.2.2.2.2.2.2.2.2.2.2.2.2.2.1 (by decide) (by decide) (by decide)) (pP_get hB.2.2.2.2.2.2.2.2.2.2.2.2.2.2.1 (by decide) (by decide) (by decide)) (pP_get hB.2.2.2.2.2.2.2.2.2.2.2.2.2.2.2.1 (by decide) (by decide) (by decide)) (pP_get hB.2.2.2.2.2.2.2.2.2.2.2.2.2.2.2.2.1 (by decide) (by decide) (by decide)) hta hrd hA.2.2.2.2.1 (by omega) (by omega) hpv2 (fun a2 m t2 b c hs => ?_)
              rw [seal_pP]
              have hB1 := sB_MB (a := a2) (m := m) (t := t2) (b := b) (c := c) hB
              have hq1 := (sB_tk (h := h0) (a := a2) (m := m) (t := t2) (b := b) (c := c)).trans hq
              generalize sB h0 a2 m t2 b c = h1 at hB1 hq1 ⊢
              refine mj_iconst d_Mod_genuine_106 (nI 1) (by decide) ?_
              refine mj_istore d_Mod_genuine_107 (by decide) ?_
              dsimp only [mSt1, mSt2, mKill, Nat.reduceAdd]
              refine mj_iconst d_Mod_genuine_109 (nI 0) (by decide) ?_
              refine mj_istore d_Mod_genuine_110 (by decide) ?_
              dsimp only [mSt1, mSt2, mKill, Nat.reduceAdd]
              refine lk_genuine hB1 hr hA.2.1.1 hA.2.1.2 (by omega) hs (sealF_lt hA.2.2.2.2.1 (payM_lt (getD_lt hA.2.1.1 _))) (fun z => ?_) (fun z => ?_) 8 0 1 (by omega) (by omega) ⟨fun _ => ⟨trivial, fun j hj => by omega⟩, fun _ => rfl⟩
              · rw [genN, if_neg (fun y => z y.2.2.2.2.2)] at kP; exact kP _ ⟨h1, fkey, fdig, fnm, frc, frl, frb, fta, frd, b, t2, a2, c, m, fend, fr, fo, ⟨ht, hr, hnm, hdg, hF, hta, hrd⟩, hB1, hq1, rfl⟩
              · rw [genN, if_pos ⟨ha, c_50, c_55, c_60, c_65, z⟩] at kP; exact kP _ ⟨h1, fkey, fdig, fnm, frc, frl, frb, fta, frd, b, t2, a2, c, m, fend, fr, fo, ⟨ht, hr, hnm, hdg, hF, hta, hrd⟩, hB1, hq1, rfl⟩
            · refine mj_iconst d_Mod_genuine_68 (nI 0) (by decide) ?_
              refine mj_iret d_Mod_genuine_69 rfl (by decide) (Nat.le_refl _) (Nat.le_refl _) ?_
              first
                | (have na : ¬ amtOk a := fun z => by rw [if_pos z] at c_32; omega
                   rw [genN, if_neg (fun z => na z.1)] at kP; exact kP _ hW3)
                | (rw [genN, if_neg (fun z => by have q := z.2.1; rw [List.eq_nil_of_length_eq_zero c_39] at q; exact absurd q (by decide))] at kP; exact kP _ hW3)
                | (rw [genN, if_neg (fun z => c_50 z.2.1)] at kP; exact kP _ hW3)
                | (rw [i_ge0, Decidable.not_not, sV_neg (by omega)] at c_65
                   rw [genN, if_neg (fun z => z.2.2.2.2.1 c_65)] at kP; exact kP _ hW3)
                | (have q : szN r (nI 40758) 2 = 0 := (sV_neg (by omega)).mp c_60; rw [genN, if_neg (fun z => z.2.2.2.1 q)] at kP; exact kP _ hW3)
                | (have q : szN r (nI 40743) 1 = 0 := (sV_neg (by omega)).mp c_55; rw [genN, if_neg (fun z => z.2.2.1 q)] at kP; exact kP _ hW3)
