theorem if1 {c : Prop} {dc : Decidable c} (h : c) : nI (if c then 1 else 0) = nI 1 := by rw [if_pos h]
theorem if0 {c : Prop} {dc : Decidable c} (h : ¬ c) : nI (if c then 1 else 0) = nI 0 := by rw [if_neg h]
theorem s_Crd_isWellFormed {L : Nat} {xs : Nat → Int32} {Post : Option Value → mHeap → Prop} {h : mHeap} {t : List Nat} {tf : Nat → Int32} (hr : RA h 1 2 40 t tf) (hb : ∀ b ∈ t, b < 256) (kP : Post (some (.int (nI (if wfR t then 1 else 0)))) h) : mMet M_Crd_isWellFormed L xs (1, 21) 0 0 [.ref 1] h Post := by
  refine mMet_of rfl (Nat.le_of_ble_eq_true rfl) ?_
  have hcap := hr.2.2.2.1
  refine mj_aload_n d_Crd_isWellFormed_0 rfl ?_
  refine mj_virtual (d' := (0, 0)) (mc := 0) (ms := 0) (As := []) d_Crd_isWellFormed_1 cw_Row_size q_227 q_204 q_205 (ci := 0) rfl hr.1 rfl rfl (mRoomB rfl) ?_
  refine s_Row_size hr ?_
  refine mj_istore_n d_Crd_isWellFormed_4 (by decide) ?_
  dsimp only [mSt1, mSt2, mKill, Nat.reduceAdd]
  refine mj_iload_n d_Crd_isWellFormed_5 rfl ?_
  refine mj_iconst d_Crd_isWellFormed_6 (nI 4) (by decide) ?_
  refine mj_icmpeqN d_Crd_isWellFormed_7 26 rfl (by omega) (fun c_7 => ?_) (fun c_7 => ?_)
  · refine mj_iconst d_Crd_isWellFormed_26 (nI 1) (by decide) ?_
    refine mj_goto d_Crd_isWellFormed_27 31 rfl ?_
    refine mj_iret d_Crd_isWellFormed_31 rfl (by decide) (Nat.le_refl _) (Nat.le_refl _) ?_
    first
      | (rw [if1 (by omega)] at kP; exact kP)
      | (rw [if0 (by omega)] at kP; exact kP)
  · refine mj_iload_n d_Crd_isWellFormed_10 rfl ?_
    refine mj_iconst d_Crd_isWellFormed_11 (nI 5) (by decide) ?_
    refine mj_icmpleN d_Crd_isWellFormed_12 30 rfl (by omega) (fun c_12 => ?_) (fun c_12 => ?_)
    · refine mj_iconst d_Crd_isWellFormed_30 (nI 0) (by decide) ?_
      refine mj_iret d_Crd_isWellFormed_31 rfl (by decide) (Nat.le_refl _) (Nat.le_refl _) ?_
      first
        | (rw [if1 (by omega)] at kP; exact kP)
        | (rw [if0 (by omega)] at kP; exact kP)
    · refine mj_aload_n d_Crd_isWellFormed_15 rfl ?_
      refine mj_iconst d_Crd_isWellFormed_16 (nI 4) (by decide) ?_
      refine mj_virtual (d' := (0, 0)) (mc := 0) (ms := 0) (As := [_]) d_Crd_isWellFormed_17 cw_Row_at q_228 q_229 q_230 (ci := 0) rfl hr.1 rfl rfl (mRoomB rfl) ?_
      refine s_Row_at hr ?_
      rw [atV_in (i := 4) (by omega) (by omega)]
      refine mj_iload_n d_Crd_isWellFormed_20 rfl ?_
      refine mj_iconst d_Crd_isWellFormed_21 (nI 5) (by decide) ?_
      refine mj_isub d_Crd_isWellFormed_22 ?_
      rw [pk_sub (by omega)]
      refine mj_icmpneN d_Crd_isWellFormed_23 30 rfl (by have := getD_lt hb 4; omega) (fun c_23 => ?_) (fun c_23 => ?_)
      · refine mj_iconst d_Crd_isWellFormed_30 (nI 0) (by decide) ?_
        refine mj_iret d_Crd_isWellFormed_31 rfl (by decide) (Nat.le_refl _) (Nat.le_refl _) ?_
        first
          | (rw [if1 (by omega)] at kP; exact kP)
          | (rw [if0 (by omega)] at kP; exact kP)
      · refine mj_iconst d_Crd_isWellFormed_26 (nI 1) (by decide) ?_
        refine mj_goto d_Crd_isWellFormed_27 31 rfl ?_
        refine mj_iret d_Crd_isWellFormed_31 rfl (by decide) (Nat.le_refl _) (Nat.le_refl _) ?_
        first
          | (rw [if1 (by omega)] at kP; exact kP)
          | (rw [if0 (by omega)] at kP; exact kP)
theorem s_Crd_instructionOf {L : Nat} {xs : Nat → Int32} {Post : Option Value → mHeap → Prop} {h : mHeap} {t : List Nat} {tf : Nat → Int32} (hr : RA h 1 2 40 t tf) (hb : ∀ b ∈ t, b < 256) (h2 : 2 ≤ t.length) (kP : Post (some (.int (nI (insN t)))) h) : mMet M_Crd_instructionOf L xs (2, 46) 0 0 [.ref 1] h Post := by
  refine mMet_of rfl (Nat.le_of_ble_eq_true rfl) ?_
  have hcap := hr.2.2.2.1
  refine mj_aload_n d_Crd_instructionOf_0 rfl ?_
  refine mj_iconst d_Crd_instructionOf_1 (nI 0) (by decide) ?_
  refine mj_iconst d_Crd_instructionOf_2 (nI 2) (by decide) ?_
  refine mj_virtual (d' := (1, 21)) (mc := 0) (ms := 0) (As := [_, _]) d_Crd_instructionOf_3 cw_Row_numberAt q_235 q_236 q_237 (ci := 0) rfl hr.1 rfl rfl (mRoomB rfl) ?_
  refine s_Row_numberAt hr (by decide) ?_
  rw [numV_in (by omega) hb 2 (by decide) (by omega)]
  refine mj_l2i d_Crd_instructionOf_6 ?_
  refine mj_iret d_Crd_instructionOf_7 rfl rfl (Nat.le_refl _) (Nat.le_refl _) ?_
  rw [lN_i]
  have e : beV ((t.drop 0).take 2) = insN t := by
    match t, h2 with
    | a :: b :: l, _ => simp [beV, insN]; omega
  rw [e]
  exact kP
theorem s_Crd_dataSize {L : Nat} {xs : Nat → Int32} {Post : Option Value → mHeap → Prop} {h : mHeap} {t : List Nat} {tf : Nat → Int32} (hr : RA h 1 2 40 t tf) (hb : ∀ b ∈ t, b < 256) (kP : Post (some (.int (nI (datN t)))) h) : mMet M_Crd_dataSize L xs (1, 20) 0 0 [.ref 1] h Post := by
  refine mMet_of rfl (Nat.le_of_ble_eq_true rfl) ?_
  have hcap := hr.2.2.2.1
  refine mj_aload_n d_Crd_dataSize_0 rfl ?_
  refine mj_virtual (d' := (0, 0)) (mc := 0) (ms := 0) (As := []) d_Crd_dataSize_1 cw_Row_size q_227 q_204 q_205 (ci := 0) rfl hr.1 rfl rfl (mRoomB rfl) ?_
  refine s_Row_size hr ?_
  refine mj_iconst d_Crd_dataSize_4 (nI 5) (by decide) ?_
  refine mj_icmpleN d_Crd_dataSize_5 17 rfl (by omega) (fun c_5 => ?_) (fun c_5 => ?_)
  · refine mj_iconst d_Crd_dataSize_17 (nI 0) (by decide) ?_
    refine mj_iret d_Crd_dataSize_18 rfl rfl (Nat.le_refl _) (Nat.le_refl _) ?_
    unfold datN at kP
    first
      | (rw [if_pos (by omega)] at kP; exact kP)
      | (rw [if_neg (by omega)] at kP; exact kP)
  · refine mj_aload_n d_Crd_dataSize_8 rfl ?_
    refine mj_virtual (d' := (0, 0)) (mc := 0) (ms := 0) (As := []) d_Crd_dataSize_9 cw_Row_size q_227 q_204 q_205 (ci := 0) rfl hr.1 rfl rfl (mRoomB rfl) ?_
    refine s_Row_size hr ?_
    refine mj_iconst d_Crd_dataSize_12 (nI 5) (by decide) ?_
    refine mj_isub d_Crd_dataSize_13 ?_
    rw [pk_sub (by omega)]
    refine mj_goto d_Crd_dataSize_14 18 rfl ?_
    refine mj_iret d_Crd_dataSize_18 rfl rfl (Nat.le_refl _) (Nat.le_refl _) ?_
    unfold datN at kP
    first
      | (rw [if_pos (by omega)] at kP; exact kP)
      | (rw [if_neg (by omega)] at kP; exact kP)
theorem s_Crd_isKnown {L : Nat} {xs : Nat → Int32} {Post : Option Value → mHeap → Prop} {h : mHeap} {i : Nat} (hi : i < 2 ^ 31) (kP : Post (some (.int (nI (if cmN i = 0 then 0 else 1)))) h) : mMet M_Crd_isKnown L xs (0, 0) 0 0 [.int (nI i)] h Post := by
  refine mMet_of rfl (Nat.le_of_ble_eq_true rfl) ?_
  refine mj_iload_n d_Crd_isKnown_0 rfl ?_
  by_cases e_164 : i = 164
  · subst e_164
    refine mj_lookup d_Crd_isKnown_1 (by decide) (off := 59) (by decide) 60 rfl ?_
    refine mj_iconst d_Crd_isKnown_60 (nI 1) (by decide) ?_
    refine mj_iret d_Crd_isKnown_61 rfl (by decide) (Nat.le_refl _) (Nat.le_refl _) ?_
    rw [show cmN 164 = 1 from rfl] at kP
    exact kP
  by_cases e_32936 : i = 32936
  · subst e_32936
    refine mj_lookup d_Crd_isKnown_1 (by decide) (off := 59) (by decide) 60 rfl ?_
    refine mj_iconst d_Crd_isKnown_60 (nI 1) (by decide) ?_
    refine mj_iret d_Crd_isKnown_61 rfl (by decide) (Nat.le_refl _) (Nat.le_refl _) ?_
    rw [show cmN 32936 = 2 from rfl] at kP
    exact kP
  by_cases e_178 : i = 178
  · subst e_178
    refine mj_lookup d_Crd_isKnown_1 (by decide) (off := 59) (by decide) 60 rfl ?_
    refine mj_iconst d_Crd_isKnown_60 (nI 1) (by decide) ?_
    refine mj_iret d_Crd_isKnown_61 rfl (by decide) (Nat.le_refl _) (Nat.le_refl _) ?_
    rw [show cmN 178 = 3 from rfl] at kP
    exact kP
  by_cases e_32 : i = 32
  · subst e_32
    refine mj_lookup d_Crd_isKnown_1 (by decide) (off := 59) (by decide) 60 rfl ?_
    refine mj_iconst d_Crd_isKnown_60 (nI 1) (by decide) ?_
    refine mj_iret d_Crd_isKnown_61 rfl (by decide) (Nat.le_refl _) (Nat.le_refl _) ?_
    rw [show cmN 32 = 4 from rfl] at kP
    exact kP
  by_cases e_32970 : i = 32970
  · subst e_32970
    refine mj_lookup d_Crd_isKnown_1 (by decide) (off := 59) (by decide) 60 rfl ?_
    refine mj_iconst d_Crd_isKnown_60 (nI 1) (by decide) ?_
    refine mj_iret d_Crd_isKnown_61 rfl (by decide) (Nat.le_refl _) (Nat.le_refl _) ?_
    rw [show cmN 32970 = 5 from rfl] at kP
    exact kP
  by_cases e_32942 : i = 32942
  · subst e_32942
    refine mj_lookup d_Crd_isKnown_1 (by decide) (off := 59) (by decide) 60 rfl ?_
    refine mj_iconst d_Crd_isKnown_60 (nI 1) (by decide) ?_
    refine mj_iret d_Crd_isKnown_61 rfl (by decide) (Nat.le_refl _) (Nat.le_refl _) ?_
    rw [show cmN 32942 = 6 from rfl] at kP
    exact kP
  refine mj_lookup d_Crd_isKnown_1 (by decide) (off := 61) (by rw [lv_osw (k := nI 32) (fun z => e_32 (nI_inj hi (by decide) z)) (by decide), lv_osw (k := nI 164) (fun z => e_164 (nI_inj hi (by decide) z)) (by decide), lv_osw (k := nI 178) (fun z => e_178 (nI_inj hi (by decide) z)) (by decide), lv_osw (k := nI 32936) (fun z => e_32936 (nI_inj hi (by decide) z)) (by decide), lv_osw (k := nI 32942) (fun z => e_32942 (nI_inj hi (by decide) z)) (by decide), lv_osw (k := nI 32970) (fun z => e_32970 (nI_inj hi (by decide) z)) (by decide)]; rfl) 62 rfl ?_
  refine mj_iconst d_Crd_isKnown_62 (nI 0) (by decide) ?_
  refine mj_iret d_Crd_isKnown_63 rfl (by decide) (Nat.le_refl _) (Nat.le_refl _) ?_
  have e : cmN i = 0 := by unfold cmN; simp [e_164, e_32936, e_178, e_32, e_32970, e_32942]
  rw [e] at kP
  exact kP
theorem s_Crd_takesParameters {L : Nat} {xs : Nat → Int32} {Post : Option Value → mHeap → Prop} {h : mHeap} {i p q : Nat} (hc : cmN i ≠ 0) (hp : p < 256) (hq : q < 256) (kP : Post (some (.int (nI (if parOk (cmN i) p q then 1 else 0)))) h) : mMet M_Crd_takesParameters L xs (0, 0) 0 0 [.int (nI i), .int (nI p), .int (nI q)] h Post := by
  refine mMet_of rfl (Nat.le_of_ble_eq_true rfl) ?_
  refine mj_iload_n d_Crd_takesParameters_0 rfl ?_
  rcases cm_cases hc with rfl | rfl | rfl | rfl | rfl | rfl
  · rw [show cmN 164 = 1 from rfl] at kP
    refine mj_lookup d_Crd_takesParameters_1 (by decide) (off := 51) (by decide) 52 rfl ?_
    refine mj_iload_n d_Crd_takesParameters_52 rfl ?_
    refine mj_iconst d_Crd_takesParameters_53 (nI 4) (by decide) ?_
    refine mj_icmpneN d_Crd_takesParameters_54 65 rfl (by omega) (fun c_54 => ?_) (fun c_54 => ?_)
    · refine mj_iconst d_Crd_takesParameters_65 (nI 0) (by decide) ?_
      refine mj_iret d_Crd_takesParameters_66 rfl (by decide) (Nat.le_refl _) (Nat.le_refl _) ?_
      first
        | (rw [if1 (by omega)] at kP; exact kP)
        | (rw [if0 (by omega)] at kP; exact kP)
    · refine mj_iload_n d_Crd_takesParameters_57 rfl ?_
      refine mj_ifneN d_Crd_takesParameters_58 65 rfl (by omega) (fun c_58 => ?_) (fun c_58 => ?_)
      · refine mj_iconst d_Crd_takesParameters_65 (nI 0) (by decide) ?_
        refine mj_iret d_Crd_takesParameters_66 rfl (by decide) (Nat.le_refl _) (Nat.le_refl _) ?_
        first
          | (rw [if1 (by omega)] at kP; exact kP)
          | (rw [if0 (by omega)] at kP; exact kP)
      · refine mj_iconst d_Crd_takesParameters_61 (nI 1) (by decide) ?_
        refine mj_goto d_Crd_takesParameters_62 66 rfl ?_
        refine mj_iret d_Crd_takesParameters_66 rfl (by decide) (Nat.le_refl _) (Nat.le_refl _) ?_
        first
          | (rw [if1 (by omega)] at kP; exact kP)
          | (rw [if0 (by omega)] at kP; exact kP)
  · rw [show cmN 32936 = 2 from rfl] at kP
    refine mj_lookup d_Crd_takesParameters_1 (by decide) (off := 66) (by decide) 67 rfl ?_
    refine mj_iload_n d_Crd_takesParameters_67 rfl ?_
    refine mj_ifneN d_Crd_takesParameters_68 79 rfl (by omega) (fun c_68 => ?_) (fun c_68 => ?_)
    · refine mj_iconst d_Crd_takesParameters_79 (nI 0) (by decide) ?_
      refine mj_iret d_Crd_takesParameters_80 rfl (by decide) (Nat.le_refl _) (Nat.le_refl _) ?_
      first
        | (rw [if1 (by omega)] at kP; exact kP)
        | (rw [if0 (by omega)] at kP; exact kP)
    · refine mj_iload_n d_Crd_takesParameters_71 rfl ?_
      refine mj_ifneN d_Crd_takesParameters_72 79 rfl (by omega) (fun c_72 => ?_) (fun c_72 => ?_)
      · refine mj_iconst d_Crd_takesParameters_79 (nI 0) (by decide) ?_
        refine mj_iret d_Crd_takesParameters_80 rfl (by decide) (Nat.le_refl _) (Nat.le_refl _) ?_
        first
          | (rw [if1 (by omega)] at kP; exact kP)
          | (rw [if0 (by omega)] at kP; exact kP)
      · refine mj_iconst d_Crd_takesParameters_75 (nI 1) (by decide) ?_
        refine mj_goto d_Crd_takesParameters_76 80 rfl ?_
        refine mj_iret d_Crd_takesParameters_80 rfl (by decide) (Nat.le_refl _) (Nat.le_refl _) ?_
        first
          | (rw [if1 (by omega)] at kP; exact kP)
          | (rw [if0 (by omega)] at kP; exact kP)
  · rw [show cmN 178 = 3 from rfl] at kP
    refine mj_lookup d_Crd_takesParameters_1 (by decide) (off := 80) (by decide) 81 rfl ?_
    refine mj_iload_n d_Crd_takesParameters_81 rfl ?_
    refine mj_bipush d_Crd_takesParameters_82 (nI 8) (by decide) ?_
    refine mj_irem d_Crd_takesParameters_84 (by decide) ?_
    rw [pk_rem (by omega) (by decide) (by decide)]
    refine mj_iconst d_Crd_takesParameters_85 (nI 4) (by decide) ?_
    refine mj_icmpneN d_Crd_takesParameters_86 93 rfl (by omega) (fun c_86 => ?_) (fun c_86 => ?_)
    · refine mj_iconst d_Crd_takesParameters_93 (nI 0) (by decide) ?_
      refine mj_iret d_Crd_takesParameters_94 rfl (by decide) (Nat.le_refl _) (Nat.le_refl _) ?_
      first
        | (rw [if1 (by omega)] at kP; exact kP)
        | (rw [if0 (by omega)] at kP; exact kP)
    · refine mj_iconst d_Crd_takesParameters_89 (nI 1) (by decide) ?_
      refine mj_goto d_Crd_takesParameters_90 94 rfl ?_
      refine mj_iret d_Crd_takesParameters_94 rfl (by decide) (Nat.le_refl _) (Nat.le_refl _) ?_
      first
        | (rw [if1 (by omega)] at kP; exact kP)
        | (rw [if0 (by omega)] at kP; exact kP)
  · rw [show cmN 32 = 4 from rfl] at kP
    refine mj_lookup d_Crd_takesParameters_1 (by decide) (off := 94) (by decide) 95 rfl ?_
    refine mj_iload_n d_Crd_takesParameters_95 rfl ?_
    refine mj_ifneN d_Crd_takesParameters_96 110 rfl (by omega) (fun c_96 => ?_) (fun c_96 => ?_)
    · refine mj_iconst d_Crd_takesParameters_110 (nI 0) (by decide) ?_
      refine mj_iret d_Crd_takesParameters_111 rfl (by decide) (Nat.le_refl _) (Nat.le_refl _) ?_
      first
        | (rw [if1 (by omega)] at kP; exact kP)
        | (rw [if0 (by omega)] at kP; exact kP)
    · refine mj_iload_n d_Crd_takesParameters_99 rfl ?_
      refine mj_sipush d_Crd_takesParameters_100 (nI 128) (by decide) ?_
      refine mj_icmpneN d_Crd_takesParameters_103 110 rfl (by omega) (fun c_103 => ?_) (fun c_103 => ?_)
      · refine mj_iconst d_Crd_takesParameters_110 (nI 0) (by decide) ?_
        refine mj_iret d_Crd_takesParameters_111 rfl (by decide) (Nat.le_refl _) (Nat.le_refl _) ?_
        first
          | (rw [if1 (by omega)] at kP; exact kP)
          | (rw [if0 (by omega)] at kP; exact kP)
      · refine mj_iconst d_Crd_takesParameters_106 (nI 1) (by decide) ?_
        refine mj_goto d_Crd_takesParameters_107 111 rfl ?_
        refine mj_iret d_Crd_takesParameters_111 rfl (by decide) (Nat.le_refl _) (Nat.le_refl _) ?_
        first
          | (rw [if1 (by omega)] at kP; exact kP)
          | (rw [if0 (by omega)] at kP; exact kP)
  · rw [show cmN 32970 = 5 from rfl] at kP
    refine mj_lookup d_Crd_takesParameters_1 (by decide) (off := 111) (by decide) 112 rfl ?_
    refine mj_iload_n d_Crd_takesParameters_112 rfl ?_
    refine mj_sipush d_Crd_takesParameters_113 (nI 159) (by decide) ?_
    refine mj_icmpneN d_Crd_takesParameters_116 135 rfl (by omega) (fun c_116 => ?_) (fun c_116 => ?_)
    · refine mj_iconst d_Crd_takesParameters_135 (nI 0) (by decide) ?_
      refine mj_iret d_Crd_takesParameters_136 rfl (by decide) (Nat.le_refl _) (Nat.le_refl _) ?_
      first
        | (rw [if1 (by omega)] at kP; exact kP)
        | (rw [if0 (by omega)] at kP; exact kP)
    · refine mj_iload_n d_Crd_takesParameters_119 rfl ?_
      refine mj_bipush d_Crd_takesParameters_120 (nI 54) (by decide) ?_
      refine mj_icmpeqN d_Crd_takesParameters_122 131 rfl (by omega) (fun c_122 => ?_) (fun c_122 => ?_)
      · refine mj_iconst d_Crd_takesParameters_131 (nI 1) (by decide) ?_
        refine mj_goto d_Crd_takesParameters_132 136 rfl ?_
        refine mj_iret d_Crd_takesParameters_136 rfl (by decide) (Nat.le_refl _) (Nat.le_refl _) ?_
        first
          | (rw [if1 (by omega)] at kP; exact kP)
          | (rw [if0 (by omega)] at kP; exact kP)
      · refine mj_iload_n d_Crd_takesParameters_125 rfl ?_
        refine mj_bipush d_Crd_takesParameters_126 (nI 23) (by decide) ?_
        refine mj_icmpneN d_Crd_takesParameters_128 135 rfl (by omega) (fun c_128 => ?_) (fun c_128 => ?_)
        · refine mj_iconst d_Crd_takesParameters_135 (nI 0) (by decide) ?_
          refine mj_iret d_Crd_takesParameters_136 rfl (by decide) (Nat.le_refl _) (Nat.le_refl _) ?_
          first
            | (rw [if1 (by omega)] at kP; exact kP)
            | (rw [if0 (by omega)] at kP; exact kP)
        · refine mj_iconst d_Crd_takesParameters_131 (nI 1) (by decide) ?_
          refine mj_goto d_Crd_takesParameters_132 136 rfl ?_
          refine mj_iret d_Crd_takesParameters_136 rfl (by decide) (Nat.le_refl _) (Nat.le_refl _) ?_
          first
            | (rw [if1 (by omega)] at kP; exact kP)
            | (rw [if0 (by omega)] at kP; exact kP)
  · rw [show cmN 32942 = 6 from rfl] at kP
    refine mj_lookup d_Crd_takesParameters_1 (by decide) (off := 136) (by decide) 137 rfl ?_
    refine mj_iload_n d_Crd_takesParameters_137 rfl ?_
    refine mj_ifeqN d_Crd_takesParameters_138 154 rfl (by omega) (fun c_138 => ?_) (fun c_138 => ?_)
    · refine mj_iload_n d_Crd_takesParameters_154 rfl ?_
      refine mj_ifneN d_Crd_takesParameters_155 162 rfl (by omega) (fun c_155 => ?_) (fun c_155 => ?_)
      · refine mj_iconst d_Crd_takesParameters_162 (nI 0) (by decide) ?_
        refine mj_iret d_Crd_takesParameters_163 rfl (by decide) (Nat.le_refl _) (Nat.le_refl _) ?_
        first
          | (rw [if1 (by omega)] at kP; exact kP)
          | (rw [if0 (by omega)] at kP; exact kP)
      · refine mj_iconst d_Crd_takesParameters_158 (nI 1) (by decide) ?_
        refine mj_goto d_Crd_takesParameters_159 163 rfl ?_
        refine mj_iret d_Crd_takesParameters_163 rfl (by decide) (Nat.le_refl _) (Nat.le_refl _) ?_
        first
          | (rw [if1 (by omega)] at kP; exact kP)
          | (rw [if0 (by omega)] at kP; exact kP)
    · refine mj_iload_n d_Crd_takesParameters_141 rfl ?_
      refine mj_bipush d_Crd_takesParameters_142 (nI 64) (by decide) ?_
      refine mj_icmpeqN d_Crd_takesParameters_144 154 rfl (by omega) (fun c_144 => ?_) (fun c_144 => ?_)
      · refine mj_iload_n d_Crd_takesParameters_154 rfl ?_
        refine mj_ifneN d_Crd_takesParameters_155 162 rfl (by omega) (fun c_155 => ?_) (fun c_155 => ?_)
        · refine mj_iconst d_Crd_takesParameters_162 (nI 0) (by decide) ?_
          refine mj_iret d_Crd_takesParameters_163 rfl (by decide) (Nat.le_refl _) (Nat.le_refl _) ?_
          first
            | (rw [if1 (by omega)] at kP; exact kP)
            | (rw [if0 (by omega)] at kP; exact kP)
        · refine mj_iconst d_Crd_takesParameters_158 (nI 1) (by decide) ?_
          refine mj_goto d_Crd_takesParameters_159 163 rfl ?_
          refine mj_iret d_Crd_takesParameters_163 rfl (by decide) (Nat.le_refl _) (Nat.le_refl _) ?_
          first
            | (rw [if1 (by omega)] at kP; exact kP)
            | (rw [if0 (by omega)] at kP; exact kP)
      · refine mj_iload_n d_Crd_takesParameters_147 rfl ?_
        refine mj_sipush d_Crd_takesParameters_148 (nI 128) (by decide) ?_
        refine mj_icmpneN d_Crd_takesParameters_151 162 rfl (by omega) (fun c_151 => ?_) (fun c_151 => ?_)
        · refine mj_iconst d_Crd_takesParameters_162 (nI 0) (by decide) ?_
          refine mj_iret d_Crd_takesParameters_163 rfl (by decide) (Nat.le_refl _) (Nat.le_refl _) ?_
          first
            | (rw [if1 (by omega)] at kP; exact kP)
            | (rw [if0 (by omega)] at kP; exact kP)
        · refine mj_iload_n d_Crd_takesParameters_154 rfl ?_
          refine mj_ifneN d_Crd_takesParameters_155 162 rfl (by omega) (fun c_155 => ?_) (fun c_155 => ?_)
          · refine mj_iconst d_Crd_takesParameters_162 (nI 0) (by decide) ?_
            refine mj_iret d_Crd_takesParameters_163 rfl (by decide) (Nat.le_refl _) (Nat.le_refl _) ?_
            first
              | (rw [if1 (by omega)] at kP; exact kP)
              | (rw [if0 (by omega)] at kP; exact kP)
          · refine mj_iconst d_Crd_takesParameters_158 (nI 1) (by decide) ?_
            refine mj_goto d_Crd_takesParameters_159 163 rfl ?_
            refine mj_iret d_Crd_takesParameters_163 rfl (by decide) (Nat.le_refl _) (Nat.le_refl _) ?_
            first
              | (rw [if1 (by omega)] at kP; exact kP)
              | (rw [if0 (by omega)] at kP; exact kP)
abbrev cCrd (co cu tr an sg am pv : Nat) : mCell := .inr (4, [.ref 10, .ref 12, .ref 16, .int (nI co), .int (nI cu), .int (nI tr), .int (nI an), .int (nI sg), .long (lN am), .int (nI pv)])
theorem s_Crd_fitsStage {L : Nat} {xs : Nat → Int32} {Post : Option Value → mHeap → Prop} {h : mHeap} {i : Nat} {co cu tr an sg am pv : Nat} (h9 : h[9]? = some (cCrd co cu tr an sg am pv)) (hc : cmN i ≠ 0) (hs : sg ≤ 4) (hu : cu < 65536) (kP : Post (some (.int (nI (if stgOk (cmN i) sg cu then 1 else 0)))) h) : mMet M_Crd_fitsStage L xs (0, 0) 0 0 [.ref 9, .int (nI i)] h Post := by
  refine mMet_of rfl (Nat.le_of_ble_eq_true rfl) ?_
  refine mj_iload_n d_Crd_fitsStage_0 rfl ?_
  rcases cm_cases hc with rfl | rfl | rfl | rfl | rfl | rfl
  · rw [show cmN 164 = 1 from rfl] at kP
    refine mj_lookup d_Crd_fitsStage_1 (by decide) (off := 116) (by decide) 117 rfl ?_
    refine mj_iconst d_Crd_fitsStage_117 (nI 1) (by decide) ?_
    refine mj_iret d_Crd_fitsStage_118 rfl (by decide) (Nat.le_refl _) (Nat.le_refl _) ?_
    first
      | (rw [if1 (by omega)] at kP; exact kP)
      | (rw [if0 (by omega)] at kP; exact kP)
  · rw [show cmN 32936 = 2 from rfl] at kP
    refine mj_lookup d_Crd_fitsStage_1 (by decide) (off := 43) (by decide) 44 rfl ?_
    refine mj_aload_n d_Crd_fitsStage_44 rfl ?_
    refine mj_get d_Crd_fitsStage_45 fd_Crd_47 h9 rfl ?_
    refine mj_iconst d_Crd_fitsStage_48 (nI 1) (by decide) ?_
    refine mj_icmpneN d_Crd_fitsStage_49 65 rfl (by omega) (fun c_49 => ?_) (fun c_49 => ?_)
    · refine mj_iconst d_Crd_fitsStage_65 (nI 0) (by decide) ?_
      refine mj_iret d_Crd_fitsStage_66 rfl (by decide) (Nat.le_refl _) (Nat.le_refl _) ?_
      first
        | (rw [if1 (by omega)] at kP; exact kP)
        | (rw [if0 (by omega)] at kP; exact kP)
    · refine mj_aload_n d_Crd_fitsStage_52 rfl ?_
      refine mj_get d_Crd_fitsStage_53 fd_Crd_38 h9 rfl ?_
      refine mj_ldc d_Crd_fitsStage_56 (nI 65535) q_251 ?_
      refine mj_icmpgeN d_Crd_fitsStage_58 65 rfl (by omega) (fun c_58 => ?_) (fun c_58 => ?_)
      · refine mj_iconst d_Crd_fitsStage_65 (nI 0) (by decide) ?_
        refine mj_iret d_Crd_fitsStage_66 rfl (by decide) (Nat.le_refl _) (Nat.le_refl _) ?_
        first
          | (rw [if1 (by omega)] at kP; exact kP)
          | (rw [if0 (by omega)] at kP; exact kP)
      · refine mj_iconst d_Crd_fitsStage_61 (nI 1) (by decide) ?_
        refine mj_goto d_Crd_fitsStage_62 66 rfl ?_
        refine mj_iret d_Crd_fitsStage_66 rfl (by decide) (Nat.le_refl _) (Nat.le_refl _) ?_
        first
          | (rw [if1 (by omega)] at kP; exact kP)
          | (rw [if0 (by omega)] at kP; exact kP)
  · rw [show cmN 178 = 3 from rfl] at kP
    refine mj_lookup d_Crd_fitsStage_1 (by decide) (off := 66) (by decide) 67 rfl ?_
    refine mj_aload_n d_Crd_fitsStage_67 rfl ?_
    refine mj_get d_Crd_fitsStage_68 fd_Crd_47 h9 rfl ?_
    refine mj_iconst d_Crd_fitsStage_71 (nI 2) (by decide) ?_
    refine mj_icmpltN d_Crd_fitsStage_72 79 rfl (by omega) (fun c_72 => ?_) (fun c_72 => ?_)
    · refine mj_iconst d_Crd_fitsStage_79 (nI 0) (by decide) ?_
      refine mj_iret d_Crd_fitsStage_80 rfl (by decide) (Nat.le_refl _) (Nat.le_refl _) ?_
      first
        | (rw [if1 (by omega)] at kP; exact kP)
        | (rw [if0 (by omega)] at kP; exact kP)
    · refine mj_iconst d_Crd_fitsStage_75 (nI 1) (by decide) ?_
      refine mj_goto d_Crd_fitsStage_76 80 rfl ?_
      refine mj_iret d_Crd_fitsStage_80 rfl (by decide) (Nat.le_refl _) (Nat.le_refl _) ?_
      first
        | (rw [if1 (by omega)] at kP; exact kP)
        | (rw [if0 (by omega)] at kP; exact kP)
  · rw [show cmN 32 = 4 from rfl] at kP
    refine mj_lookup d_Crd_fitsStage_1 (by decide) (off := 80) (by decide) 81 rfl ?_
    refine mj_aload_n d_Crd_fitsStage_81 rfl ?_
    refine mj_get d_Crd_fitsStage_82 fd_Crd_47 h9 rfl ?_
    refine mj_iconst d_Crd_fitsStage_85 (nI 2) (by decide) ?_
    refine mj_icmpneN d_Crd_fitsStage_86 93 rfl (by omega) (fun c_86 => ?_) (fun c_86 => ?_)
    · refine mj_iconst d_Crd_fitsStage_93 (nI 0) (by decide) ?_
      refine mj_iret d_Crd_fitsStage_94 rfl (by decide) (Nat.le_refl _) (Nat.le_refl _) ?_
      first
        | (rw [if1 (by omega)] at kP; exact kP)
        | (rw [if0 (by omega)] at kP; exact kP)
    · refine mj_iconst d_Crd_fitsStage_89 (nI 1) (by decide) ?_
      refine mj_goto d_Crd_fitsStage_90 94 rfl ?_
      refine mj_iret d_Crd_fitsStage_94 rfl (by decide) (Nat.le_refl _) (Nat.le_refl _) ?_
      first
        | (rw [if1 (by omega)] at kP; exact kP)
        | (rw [if0 (by omega)] at kP; exact kP)
  · rw [show cmN 32970 = 5 from rfl] at kP
    refine mj_lookup d_Crd_fitsStage_1 (by decide) (off := 116) (by decide) 117 rfl ?_
    refine mj_iconst d_Crd_fitsStage_117 (nI 1) (by decide) ?_
    refine mj_iret d_Crd_fitsStage_118 rfl (by decide) (Nat.le_refl _) (Nat.le_refl _) ?_
    first
      | (rw [if1 (by omega)] at kP; exact kP)
      | (rw [if0 (by omega)] at kP; exact kP)
  · rw [show cmN 32942 = 6 from rfl] at kP
    refine mj_lookup d_Crd_fitsStage_1 (by decide) (off := 94) (by decide) 95 rfl ?_
    refine mj_aload_n d_Crd_fitsStage_95 rfl ?_
    refine mj_get d_Crd_fitsStage_96 fd_Crd_47 h9 rfl ?_
    refine mj_iconst d_Crd_fitsStage_99 (nI 2) (by decide) ?_
    refine mj_icmpeqN d_Crd_fitsStage_100 111 rfl (by omega) (fun c_100 => ?_) (fun c_100 => ?_)
    · refine mj_iconst d_Crd_fitsStage_111 (nI 1) (by decide) ?_
      refine mj_goto d_Crd_fitsStage_112 116 rfl ?_
      refine mj_iret d_Crd_fitsStage_116 rfl (by decide) (Nat.le_refl _) (Nat.le_refl _) ?_
      first
        | (rw [if1 (by omega)] at kP; exact kP)
        | (rw [if0 (by omega)] at kP; exact kP)
    · refine mj_aload_n d_Crd_fitsStage_103 rfl ?_
      refine mj_get d_Crd_fitsStage_104 fd_Crd_47 h9 rfl ?_
      refine mj_iconst d_Crd_fitsStage_107 (nI 3) (by decide) ?_
      refine mj_icmpneN d_Crd_fitsStage_108 115 rfl (by omega) (fun c_108 => ?_) (fun c_108 => ?_)
      · refine mj_iconst d_Crd_fitsStage_115 (nI 0) (by decide) ?_
        refine mj_iret d_Crd_fitsStage_116 rfl (by decide) (Nat.le_refl _) (Nat.le_refl _) ?_
        first
          | (rw [if1 (by omega)] at kP; exact kP)
          | (rw [if0 (by omega)] at kP; exact kP)
      · refine mj_iconst d_Crd_fitsStage_111 (nI 1) (by decide) ?_
        refine mj_goto d_Crd_fitsStage_112 116 rfl ?_
        refine mj_iret d_Crd_fitsStage_116 rfl (by decide) (Nat.le_refl _) (Nat.le_refl _) ?_
        first
          | (rw [if1 (by omega)] at kP; exact kP)
          | (rw [if0 (by omega)] at kP; exact kP)
theorem s_Crd_takesData {L : Nat} {xs : Nat → Int32} {Post : Option Value → mHeap → Prop} {h : mHeap} {i n : Nat} {co cu tr an sg am pv : Nat} (h9 : h[9]? = some (cCrd co cu tr an sg am pv)) (hc : cmN i ≠ 0) (hs : sg ≤ 4) (hn : n < 100) (kP : Post (some (.int (nI (if datOk (cmN i) n sg then 1 else 0)))) h) : mMet M_Crd_takesData L xs (0, 0) 0 0 [.ref 9, .int (nI i), .int (nI n)] h Post := by
  refine mMet_of rfl (Nat.le_of_ble_eq_true rfl) ?_
  refine mj_iload_n d_Crd_takesData_0 rfl ?_
  rcases cm_cases hc with rfl | rfl | rfl | rfl | rfl | rfl
  · rw [show cmN 164 = 1 from rfl] at kP
    refine mj_lookup d_Crd_takesData_1 (by decide) (off := 43) (by decide) 44 rfl ?_
    refine mj_iload_n d_Crd_takesData_44 rfl ?_
    refine mj_iconst d_Crd_takesData_45 (nI 5) (by decide) ?_
    refine mj_icmpltN d_Crd_takesData_46 59 rfl (by omega) (fun c_46 => ?_) (fun c_46 => ?_)
    · refine mj_iconst d_Crd_takesData_59 (nI 0) (by decide) ?_
      refine mj_iret d_Crd_takesData_60 rfl (by decide) (Nat.le_refl _) (Nat.le_refl _) ?_
      first
        | (rw [if1 (by omega)] at kP; exact kP)
        | (rw [if0 (by omega)] at kP; exact kP)
    · refine mj_iload_n d_Crd_takesData_49 rfl ?_
      refine mj_bipush d_Crd_takesData_50 (nI 16) (by decide) ?_
      refine mj_icmpgtN d_Crd_takesData_52 59 rfl (by omega) (fun c_52 => ?_) (fun c_52 => ?_)
      · refine mj_iconst d_Crd_takesData_59 (nI 0) (by decide) ?_
        refine mj_iret d_Crd_takesData_60 rfl (by decide) (Nat.le_refl _) (Nat.le_refl _) ?_
        first
          | (rw [if1 (by omega)] at kP; exact kP)
          | (rw [if0 (by omega)] at kP; exact kP)
      · refine mj_iconst d_Crd_takesData_55 (nI 1) (by decide) ?_
        refine mj_goto d_Crd_takesData_56 60 rfl ?_
        refine mj_iret d_Crd_takesData_60 rfl (by decide) (Nat.le_refl _) (Nat.le_refl _) ?_
        first
          | (rw [if1 (by omega)] at kP; exact kP)
          | (rw [if0 (by omega)] at kP; exact kP)
  · rw [show cmN 32936 = 2 from rfl] at kP
    refine mj_lookup d_Crd_takesData_1 (by decide) (off := 60) (by decide) 61 rfl ?_
    refine mj_iload_n d_Crd_takesData_61 rfl ?_
    refine mj_bipush d_Crd_takesData_62 (nI 8) (by decide) ?_
    refine mj_icmpneN d_Crd_takesData_64 71 rfl (by omega) (fun c_64 => ?_) (fun c_64 => ?_)
    · refine mj_iconst d_Crd_takesData_71 (nI 0) (by decide) ?_
      refine mj_iret d_Crd_takesData_72 rfl (by decide) (Nat.le_refl _) (Nat.le_refl _) ?_
      first
        | (rw [if1 (by omega)] at kP; exact kP)
        | (rw [if0 (by omega)] at kP; exact kP)
    · refine mj_iconst d_Crd_takesData_67 (nI 1) (by decide) ?_
      refine mj_goto d_Crd_takesData_68 72 rfl ?_
      refine mj_iret d_Crd_takesData_72 rfl (by decide) (Nat.le_refl _) (Nat.le_refl _) ?_
      first
        | (rw [if1 (by omega)] at kP; exact kP)
        | (rw [if0 (by omega)] at kP; exact kP)
  · rw [show cmN 178 = 3 from rfl] at kP
    refine mj_lookup d_Crd_takesData_1 (by decide) (off := 97) (by decide) 98 rfl ?_
    refine mj_iload_n d_Crd_takesData_98 rfl ?_
    refine mj_ifneN d_Crd_takesData_99 106 rfl (by omega) (fun c_99 => ?_) (fun c_99 => ?_)
    · refine mj_iconst d_Crd_takesData_106 (nI 0) (by decide) ?_
      refine mj_iret d_Crd_takesData_107 rfl (by decide) (Nat.le_refl _) (Nat.le_refl _) ?_
      first
        | (rw [if1 (by omega)] at kP; exact kP)
        | (rw [if0 (by omega)] at kP; exact kP)
    · refine mj_iconst d_Crd_takesData_102 (nI 1) (by decide) ?_
      refine mj_goto d_Crd_takesData_103 107 rfl ?_
      refine mj_iret d_Crd_takesData_107 rfl (by decide) (Nat.le_refl _) (Nat.le_refl _) ?_
      first
        | (rw [if1 (by omega)] at kP; exact kP)
        | (rw [if0 (by omega)] at kP; exact kP)
  · rw [show cmN 32 = 4 from rfl] at kP
    refine mj_lookup d_Crd_takesData_1 (by decide) (off := 60) (by decide) 61 rfl ?_
    refine mj_iload_n d_Crd_takesData_61 rfl ?_
    refine mj_bipush d_Crd_takesData_62 (nI 8) (by decide) ?_
    refine mj_icmpneN d_Crd_takesData_64 71 rfl (by omega) (fun c_64 => ?_) (fun c_64 => ?_)
    · refine mj_iconst d_Crd_takesData_71 (nI 0) (by decide) ?_
      refine mj_iret d_Crd_takesData_72 rfl (by decide) (Nat.le_refl _) (Nat.le_refl _) ?_
      first
        | (rw [if1 (by omega)] at kP; exact kP)
        | (rw [if0 (by omega)] at kP; exact kP)
    · refine mj_iconst d_Crd_takesData_67 (nI 1) (by decide) ?_
      refine mj_goto d_Crd_takesData_68 72 rfl ?_
      refine mj_iret d_Crd_takesData_72 rfl (by decide) (Nat.le_refl _) (Nat.le_refl _) ?_
      first
        | (rw [if1 (by omega)] at kP; exact kP)
        | (rw [if0 (by omega)] at kP; exact kP)
  · rw [show cmN 32970 = 5 from rfl] at kP
    refine mj_lookup d_Crd_takesData_1 (by decide) (off := 97) (by decide) 98 rfl ?_
    refine mj_iload_n d_Crd_takesData_98 rfl ?_
    refine mj_ifneN d_Crd_takesData_99 106 rfl (by omega) (fun c_99 => ?_) (fun c_99 => ?_)
    · refine mj_iconst d_Crd_takesData_106 (nI 0) (by decide) ?_
      refine mj_iret d_Crd_takesData_107 rfl (by decide) (Nat.le_refl _) (Nat.le_refl _) ?_
      first
        | (rw [if1 (by omega)] at kP; exact kP)
        | (rw [if0 (by omega)] at kP; exact kP)
    · refine mj_iconst d_Crd_takesData_102 (nI 1) (by decide) ?_
      refine mj_goto d_Crd_takesData_103 107 rfl ?_
      refine mj_iret d_Crd_takesData_107 rfl (by decide) (Nat.le_refl _) (Nat.le_refl _) ?_
      first
        | (rw [if1 (by omega)] at kP; exact kP)
        | (rw [if0 (by omega)] at kP; exact kP)
  · rw [show cmN 32942 = 6 from rfl] at kP
    refine mj_lookup d_Crd_takesData_1 (by decide) (off := 72) (by decide) 73 rfl ?_
    refine mj_iload_n d_Crd_takesData_73 rfl ?_
    refine mj_aload_n d_Crd_takesData_74 rfl ?_
    refine mj_get d_Crd_takesData_75 fd_Crd_47 h9 rfl ?_
    refine mj_iconst d_Crd_takesData_78 (nI 2) (by decide) ?_
    refine mj_icmpneN d_Crd_takesData_79 87 rfl (by omega) (fun c_79 => ?_) (fun c_79 => ?_)
    · refine mj_bipush d_Crd_takesData_87 (nI 12) (by decide) ?_
      refine mj_icmpneN d_Crd_takesData_89 96 rfl (by omega) (fun c_89 => ?_) (fun c_89 => ?_)
      · refine mj_iconst d_Crd_takesData_96 (nI 0) (by decide) ?_
        refine mj_iret d_Crd_takesData_97 rfl (by decide) (Nat.le_refl _) (Nat.le_refl _) ?_
        first
          | (rw [if1 (by omega)] at kP; exact kP)
          | (rw [if0 (by omega)] at kP; exact kP)
      · refine mj_iconst d_Crd_takesData_92 (nI 1) (by decide) ?_
        refine mj_goto d_Crd_takesData_93 97 rfl ?_
        refine mj_iret d_Crd_takesData_97 rfl (by decide) (Nat.le_refl _) (Nat.le_refl _) ?_
        first
          | (rw [if1 (by omega)] at kP; exact kP)
          | (rw [if0 (by omega)] at kP; exact kP)
    · refine mj_bipush d_Crd_takesData_82 (nI 10) (by decide) ?_
      refine mj_goto d_Crd_takesData_84 89 rfl ?_
      refine mj_icmpneN d_Crd_takesData_89 96 rfl (by omega) (fun c_89 => ?_) (fun c_89 => ?_)
      · refine mj_iconst d_Crd_takesData_96 (nI 0) (by decide) ?_
        refine mj_iret d_Crd_takesData_97 rfl (by decide) (Nat.le_refl _) (Nat.le_refl _) ?_
        first
          | (rw [if1 (by omega)] at kP; exact kP)
          | (rw [if0 (by omega)] at kP; exact kP)
      · refine mj_iconst d_Crd_takesData_92 (nI 1) (by decide) ?_
        refine mj_goto d_Crd_takesData_93 97 rfl ?_
        refine mj_iret d_Crd_takesData_97 rfl (by decide) (Nat.le_refl _) (Nat.le_refl _) ?_
        first
          | (rw [if1 (by omega)] at kP; exact kP)
          | (rw [if0 (by omega)] at kP; exact kP)
theorem insN_lt {t : List Nat} (hb : ∀ b ∈ t, b < 256) : insN t < 65536 := by
  have h0 := getD_lt hb 0
  have h1 := getD_lt hb 1
  show 256 * t.getD 0 0 + t.getD 1 0 < 65536
  omega
theorem s_Crd_firstFault {L : Nat} {xs : Nat → Int32} {Post : Option Value → mHeap → Prop} {h : mHeap} {t : List Nat} {tf : Nat → Int32} (hr : RA h 1 2 40 t tf) (hb : ∀ b ∈ t, b < 256) {co cu tr an sg am pv : Nat} (h9 : h[9]? = some (cCrd co cu tr an sg am pv)) (hs : sg ≤ 4) (hu : cu < 65536) (kP : Post (some (.int (nI (faultN t sg cu)))) h) : mMet M_Crd_firstFault L xs (3, 66) 0 0 [.ref 9, .ref 1] h Post := by
  refine mMet_of rfl (Nat.le_of_ble_eq_true rfl) ?_
  have hcap := hr.2.2.2.1
  refine mj_aload_n d_Crd_firstFault_0 rfl ?_
  refine mj_static (d' := (1, 21)) (mc := 0) (ms := 0) (As := [_]) d_Crd_firstFault_1 cw_Crd_isWellFormed q_224 q_225 rfl rfl (mRoomB rfl) ?_
  refine s_Crd_isWellFormed hr hb ?_
  refine mj_ifneN d_Crd_firstFault_4 11 rfl (by split <;> omega) (fun c_4 => ?_) (fun c_4 => ?_)
  · have w1 := (Decidable.byContradiction (fun z => by rw [if_neg z] at c_4; omega) : wfR t)
    refine mj_aload_n d_Crd_firstFault_11 rfl ?_
    refine mj_iconst d_Crd_firstFault_12 (nI 0) (by decide) ?_
    refine mj_virtual (d' := (0, 0)) (mc := 0) (ms := 0) (As := [_]) d_Crd_firstFault_13 cw_Row_at q_228 q_229 q_230 (ci := 0) rfl hr.1 rfl rfl (mRoomB rfl) ?_
    refine s_Row_at hr ?_
    rw [atV_in (i := 0) (by omega) (by omega)]
    refine mj_ifeqN d_Crd_firstFault_16 34 rfl (by have := getD_lt hb 0; omega) (fun c_16 => ?_) (fun c_16 => ?_)
    · have c0 : ¬ (t.getD 0 0 ≠ 0 ∧ t.getD 0 0 ≠ 128) := by omega
      refine mj_aload_n d_Crd_firstFault_34 rfl ?_
      refine mj_static (d' := (2, 46)) (mc := 0) (ms := 0) (As := [_]) d_Crd_firstFault_35 cw_Crd_instructionOf q_232 q_233 rfl rfl (mRoomB rfl) ?_
      refine s_Crd_instructionOf hr hb (by omega) ?_
      refine mj_istore_n d_Crd_firstFault_38 (by decide) ?_
      dsimp only [mSt1, mSt2, mKill, Nat.reduceAdd]
      refine mj_iload_n d_Crd_firstFault_39 rfl ?_
      refine mj_static (d' := (0, 0)) (mc := 0) (ms := 0) (As := [_]) d_Crd_firstFault_40 cw_Crd_isKnown q_241 q_242 rfl rfl (mRoomB rfl) ?_
      refine s_Crd_isKnown (by have := insN_lt hb; omega) ?_
      refine mj_ifneN d_Crd_firstFault_43 50 rfl (by split <;> omega) (fun c_43 => ?_) (fun c_43 => ?_)
      · have k0 : ¬ cmN (insN t) = 0 := fun z => by rw [if_pos z] at c_43; omega
        refine mj_iload_n d_Crd_firstFault_50 rfl ?_
        refine mj_aload_n d_Crd_firstFault_51 rfl ?_
        refine mj_iconst d_Crd_firstFault_52 (nI 2) (by decide) ?_
        refine mj_virtual (d' := (0, 0)) (mc := 0) (ms := 0) (As := [_]) d_Crd_firstFault_53 cw_Row_at q_228 q_229 q_230 (ci := 0) rfl hr.1 rfl rfl (mRoomB rfl) ?_
        refine s_Row_at hr ?_
        rw [atV_in (i := 2) (by omega) (by omega)]
        refine mj_aload_n d_Crd_firstFault_56 rfl ?_
        refine mj_iconst d_Crd_firstFault_57 (nI 3) (by decide) ?_
        refine mj_virtual (d' := (0, 0)) (mc := 0) (ms := 0) (As := [_]) d_Crd_firstFault_58 cw_Row_at q_228 q_229 q_230 (ci := 0) rfl hr.1 rfl rfl (mRoomB rfl) ?_
        refine s_Row_at hr ?_
        rw [atV_in (i := 3) (by omega) (by omega)]
        refine mj_static (d' := (0, 0)) (mc := 0) (ms := 0) (As := [_, _, _]) d_Crd_firstFault_61 cw_Crd_takesParameters q_244 q_245 rfl rfl (mRoomB rfl) ?_
        refine s_Crd_takesParameters (fun z => by rw [if_pos z] at c_43; omega) (getD_lt hb 2) (getD_lt hb 3) ?_
        refine mj_ifneN d_Crd_firstFault_64 71 rfl (by split <;> omega) (fun c_64 => ?_) (fun c_64 => ?_)
        · have p0 : parOk (cmN (insN t)) (t.getD 2 0) (t.getD 3 0) := Decidable.byContradiction (fun z => by rw [if_neg z] at c_64; omega)
          refine mj_aload_n d_Crd_firstFault_71 rfl ?_
          refine mj_iload_n d_Crd_firstFault_72 rfl ?_
          refine mj_virtual (d' := (0, 0)) (mc := 0) (ms := 0) (As := [_]) d_Crd_firstFault_73 cw_Crd_fitsStage q_247 q_249 qs_Crd_fitsStage (ci := 4) rfl h9 rfl rfl (mRoomB rfl) ?_
          refine s_Crd_fitsStage h9 (fun z => by rw [if_pos z] at c_43; omega) hs hu ?_
          refine mj_ifneN d_Crd_firstFault_76 83 rfl (by split <;> omega) (fun c_76 => ?_) (fun c_76 => ?_)
          · have s0 : stgOk (cmN (insN t)) sg cu := Decidable.byContradiction (fun z => by rw [if_neg z] at c_76; omega)
            refine mj_aload_n d_Crd_firstFault_83 rfl ?_
            refine mj_iload_n d_Crd_firstFault_84 rfl ?_
            refine mj_aload_n d_Crd_firstFault_85 rfl ?_
            refine mj_static (d' := (1, 20)) (mc := 0) (ms := 0) (As := [_]) d_Crd_firstFault_86 cw_Crd_dataSize q_252 q_253 rfl rfl (mRoomB rfl) ?_
            refine s_Crd_dataSize hr hb ?_
            refine mj_virtual (d' := (0, 0)) (mc := 0) (ms := 0) (As := [_, _]) d_Crd_firstFault_89 cw_Crd_takesData q_255 q_257 qs_Crd_takesData (ci := 4) rfl h9 rfl rfl (mRoomB rfl) ?_
            refine s_Crd_takesData h9 (fun z => by rw [if_pos z] at c_43; omega) hs (by unfold datN; split <;> omega) ?_
            refine mj_ifeqN d_Crd_firstFault_92 100 rfl (by split <;> omega) (fun c_92 => ?_) (fun c_92 => ?_)
            · refine mj_sipush d_Crd_firstFault_100 (nI 26368) (by decide) ?_
              refine mj_iret d_Crd_firstFault_103 rfl rfl (Nat.le_refl _) (Nat.le_refl _) ?_
              unfold faultN at kP
              rw [if_neg (fun z => z w1), if_neg c0, if_neg k0, if_neg (fun z => z p0), if_neg (fun z => z s0)] at kP
              first
                | (rw [if_pos (fun z => by rw [if_pos z] at c_92; omega)] at kP; exact kP)
                | (rw [if_neg (fun z => by rw [if_neg z] at c_92; omega)] at kP; exact kP)
            · refine mj_ldc d_Crd_firstFault_95 (nI 36864) q_259 ?_
              refine mj_goto d_Crd_firstFault_97 103 rfl ?_
              refine mj_iret d_Crd_firstFault_103 rfl rfl (Nat.le_refl _) (Nat.le_refl _) ?_
              unfold faultN at kP
              rw [if_neg (fun z => z w1), if_neg c0, if_neg k0, if_neg (fun z => z p0), if_neg (fun z => z s0)] at kP
              first
                | (rw [if_pos (fun z => by rw [if_pos z] at c_92; omega)] at kP; exact kP)
                | (rw [if_neg (fun z => by rw [if_neg z] at c_92; omega)] at kP; exact kP)
          · refine mj_sipush d_Crd_firstFault_79 (nI 27013) (by decide) ?_
            refine mj_iret d_Crd_firstFault_82 rfl rfl (Nat.le_refl _) (Nat.le_refl _) ?_
            unfold faultN at kP
            rw [if_neg (fun z => z w1), if_neg c0, if_neg k0, if_neg (fun z => z p0), if_pos (fun z => by rw [if_pos z] at c_76; omega)] at kP
            exact kP
        · refine mj_sipush d_Crd_firstFault_67 (nI 27270) (by decide) ?_
          refine mj_iret d_Crd_firstFault_70 rfl rfl (Nat.le_refl _) (Nat.le_refl _) ?_
          unfold faultN at kP
          rw [if_neg (fun z => z w1), if_neg c0, if_neg k0, if_pos (fun z => by rw [if_pos z] at c_64; omega)] at kP
          exact kP
      · refine mj_sipush d_Crd_firstFault_46 (nI 27904) (by decide) ?_
        refine mj_iret d_Crd_firstFault_49 rfl rfl (Nat.le_refl _) (Nat.le_refl _) ?_
        unfold faultN at kP
        rw [if_neg (fun z => z w1), if_neg c0, if_pos (Decidable.byContradiction (fun z => by rw [if_neg z] at c_43; omega))] at kP
        exact kP
    · refine mj_aload_n d_Crd_firstFault_19 rfl ?_
      refine mj_iconst d_Crd_firstFault_20 (nI 0) (by decide) ?_
      refine mj_virtual (d' := (0, 0)) (mc := 0) (ms := 0) (As := [_]) d_Crd_firstFault_21 cw_Row_at q_228 q_229 q_230 (ci := 0) rfl hr.1 rfl rfl (mRoomB rfl) ?_
      refine s_Row_at hr ?_
      rw [atV_in (i := 0) (by omega) (by omega)]
      refine mj_sipush d_Crd_firstFault_24 (nI 128) (by decide) ?_
      refine mj_icmpeqN d_Crd_firstFault_27 34 rfl (by have := getD_lt hb 0; omega) (fun c_27 => ?_) (fun c_27 => ?_)
      · have c0 : ¬ (t.getD 0 0 ≠ 0 ∧ t.getD 0 0 ≠ 128) := by omega
        refine mj_aload_n d_Crd_firstFault_34 rfl ?_
        refine mj_static (d' := (2, 46)) (mc := 0) (ms := 0) (As := [_]) d_Crd_firstFault_35 cw_Crd_instructionOf q_232 q_233 rfl rfl (mRoomB rfl) ?_
        refine s_Crd_instructionOf hr hb (by omega) ?_
        refine mj_istore_n d_Crd_firstFault_38 (by decide) ?_
        dsimp only [mSt1, mSt2, mKill, Nat.reduceAdd]
        refine mj_iload_n d_Crd_firstFault_39 rfl ?_
        refine mj_static (d' := (0, 0)) (mc := 0) (ms := 0) (As := [_]) d_Crd_firstFault_40 cw_Crd_isKnown q_241 q_242 rfl rfl (mRoomB rfl) ?_
        refine s_Crd_isKnown (by have := insN_lt hb; omega) ?_
        refine mj_ifneN d_Crd_firstFault_43 50 rfl (by split <;> omega) (fun c_43 => ?_) (fun c_43 => ?_)
        · have k0 : ¬ cmN (insN t) = 0 := fun z => by rw [if_pos z] at c_43; omega
          refine mj_iload_n d_Crd_firstFault_50 rfl ?_
          refine mj_aload_n d_Crd_firstFault_51 rfl ?_
          refine mj_iconst d_Crd_firstFault_52 (nI 2) (by decide) ?_
          refine mj_virtual (d' := (0, 0)) (mc := 0) (ms := 0) (As := [_]) d_Crd_firstFault_53 cw_Row_at q_228 q_229 q_230 (ci := 0) rfl hr.1 rfl rfl (mRoomB rfl) ?_
          refine s_Row_at hr ?_
          rw [atV_in (i := 2) (by omega) (by omega)]
          refine mj_aload_n d_Crd_firstFault_56 rfl ?_
          refine mj_iconst d_Crd_firstFault_57 (nI 3) (by decide) ?_
          refine mj_virtual (d' := (0, 0)) (mc := 0) (ms := 0) (As := [_]) d_Crd_firstFault_58 cw_Row_at q_228 q_229 q_230 (ci := 0) rfl hr.1 rfl rfl (mRoomB rfl) ?_
          refine s_Row_at hr ?_
          rw [atV_in (i := 3) (by omega) (by omega)]
          refine mj_static (d' := (0, 0)) (mc := 0) (ms := 0) (As := [_, _, _]) d_Crd_firstFault_61 cw_Crd_takesParameters q_244 q_245 rfl rfl (mRoomB rfl) ?_
          refine s_Crd_takesParameters (fun z => by rw [if_pos z] at c_43; omega) (getD_lt hb 2) (getD_lt hb 3) ?_
          refine mj_ifneN d_Crd_firstFault_64 71 rfl (by split <;> omega) (fun c_64 => ?_) (fun c_64 => ?_)
          · have p0 : parOk (cmN (insN t)) (t.getD 2 0) (t.getD 3 0) := Decidable.byContradiction (fun z => by rw [if_neg z] at c_64; omega)
            refine mj_aload_n d_Crd_firstFault_71 rfl ?_
            refine mj_iload_n d_Crd_firstFault_72 rfl ?_
            refine mj_virtual (d' := (0, 0)) (mc := 0) (ms := 0) (As := [_]) d_Crd_firstFault_73 cw_Crd_fitsStage q_247 q_249 qs_Crd_fitsStage (ci := 4) rfl h9 rfl rfl (mRoomB rfl) ?_
            refine s_Crd_fitsStage h9 (fun z => by rw [if_pos z] at c_43; omega) hs hu ?_
            refine mj_ifneN d_Crd_firstFault_76 83 rfl (by split <;> omega) (fun c_76 => ?_) (fun c_76 => ?_)
            · have s0 : stgOk (cmN (insN t)) sg cu := Decidable.byContradiction (fun z => by rw [if_neg z] at c_76; omega)
              refine mj_aload_n d_Crd_firstFault_83 rfl ?_
              refine mj_iload_n d_Crd_firstFault_84 rfl ?_
              refine mj_aload_n d_Crd_firstFault_85 rfl ?_
              refine mj_static (d' := (1, 20)) (mc := 0) (ms := 0) (As := [_]) d_Crd_firstFault_86 cw_Crd_dataSize q_252 q_253 rfl rfl (mRoomB rfl) ?_
              refine s_Crd_dataSize hr hb ?_
              refine mj_virtual (d' := (0, 0)) (mc := 0) (ms := 0) (As := [_, _]) d_Crd_firstFault_89 cw_Crd_takesData q_255 q_257 qs_Crd_takesData (ci := 4) rfl h9 rfl rfl (mRoomB rfl) ?_
              refine s_Crd_takesData h9 (fun z => by rw [if_pos z] at c_43; omega) hs (by unfold datN; split <;> omega) ?_
              refine mj_ifeqN d_Crd_firstFault_92 100 rfl (by split <;> omega) (fun c_92 => ?_) (fun c_92 => ?_)
              · refine mj_sipush d_Crd_firstFault_100 (nI 26368) (by decide) ?_
                refine mj_iret d_Crd_firstFault_103 rfl rfl (Nat.le_refl _) (Nat.le_refl _) ?_
                unfold faultN at kP
                rw [if_neg (fun z => z w1), if_neg c0, if_neg k0, if_neg (fun z => z p0), if_neg (fun z => z s0)] at kP
                first
                  | (rw [if_pos (fun z => by rw [if_pos z] at c_92; omega)] at kP; exact kP)
                  | (rw [if_neg (fun z => by rw [if_neg z] at c_92; omega)] at kP; exact kP)
              · refine mj_ldc d_Crd_firstFault_95 (nI 36864) q_259 ?_
                refine mj_goto d_Crd_firstFault_97 103 rfl ?_
                refine mj_iret d_Crd_firstFault_103 rfl rfl (Nat.le_refl _) (Nat.le_refl _) ?_
                unfold faultN at kP
                rw [if_neg (fun z => z w1), if_neg c0, if_neg k0, if_neg (fun z => z p0), if_neg (fun z => z s0)] at kP
                first
                  | (rw [if_pos (fun z => by rw [if_pos z] at c_92; omega)] at kP; exact kP)
                  | (rw [if_neg (fun z => by rw [if_neg z] at c_92; omega)] at kP; exact kP)
            · refine mj_sipush d_Crd_firstFault_79 (nI 27013) (by decide) ?_
              refine mj_iret d_Crd_firstFault_82 rfl rfl (Nat.le_refl _) (Nat.le_refl _) ?_
              unfold faultN at kP
              rw [if_neg (fun z => z w1), if_neg c0, if_neg k0, if_neg (fun z => z p0), if_pos (fun z => by rw [if_pos z] at c_76; omega)] at kP
              exact kP
          · refine mj_sipush d_Crd_firstFault_67 (nI 27270) (by decide) ?_
            refine mj_iret d_Crd_firstFault_70 rfl rfl (Nat.le_refl _) (Nat.le_refl _) ?_
            unfold faultN at kP
            rw [if_neg (fun z => z w1), if_neg c0, if_neg k0, if_pos (fun z => by rw [if_pos z] at c_64; omega)] at kP
            exact kP
        · refine mj_sipush d_Crd_firstFault_46 (nI 27904) (by decide) ?_
          refine mj_iret d_Crd_firstFault_49 rfl rfl (Nat.le_refl _) (Nat.le_refl _) ?_
          unfold faultN at kP
          rw [if_neg (fun z => z w1), if_neg c0, if_pos (Decidable.byContradiction (fun z => by rw [if_neg z] at c_43; omega))] at kP
          exact kP
      · refine mj_sipush d_Crd_firstFault_30 (nI 28160) (by decide) ?_
        refine mj_iret d_Crd_firstFault_33 rfl rfl (Nat.le_refl _) (Nat.le_refl _) ?_
        unfold faultN at kP
        rw [if_neg (fun z => z w1), if_pos ⟨c_16, c_27⟩] at kP
        exact kP
  · refine mj_sipush d_Crd_firstFault_7 (nI 26368) (by decide) ?_
    refine mj_iret d_Crd_firstFault_10 rfl rfl (Nat.le_refl _) (Nat.le_refl _) ?_
    unfold faultN at kP
    rw [if_pos (fun z => by rw [if_pos z] at c_4; omega)] at kP
    exact kP
def dgV (b : Nat) : Int32 := if b / 16 ≤ 9 ∧ b % 16 ≤ 9 then nI (b / 16 * 10 + b % 16) else -1
theorem s_Crd_digitsOf {L : Nat} {xs : Nat → Int32} {Post : Option Value → mHeap → Prop} {h : mHeap} {b : Nat} (hb : b < 256) (kP : Post (some (.int (dgV b))) h) : mMet M_Crd_digitsOf L xs (0, 0) 0 0 [.int (nI b)] h Post := by
  refine mMet_of rfl (Nat.le_of_ble_eq_true rfl) ?_
  refine mj_iload_n d_Crd_digitsOf_0 rfl ?_
  refine mj_bipush d_Crd_digitsOf_1 (nI 16) (by decide) ?_
  refine mj_idiv d_Crd_digitsOf_3 (by decide) ?_
  rw [pk_div (by omega) (by decide) (by decide)]
  refine mj_istore_n d_Crd_digitsOf_4 (by decide) ?_
  dsimp only [mSt1, mSt2, mKill, Nat.reduceAdd]
  refine mj_iload_n d_Crd_digitsOf_5 rfl ?_
  refine mj_bipush d_Crd_digitsOf_6 (nI 16) (by decide) ?_
  refine mj_irem d_Crd_digitsOf_8 (by decide) ?_
  rw [pk_rem (by omega) (by decide) (by decide)]
  refine mj_istore_n d_Crd_digitsOf_9 (by decide) ?_
  dsimp only [mSt1, mSt2, mKill, Nat.reduceAdd]
  refine mj_iload_n d_Crd_digitsOf_10 rfl ?_
  refine mj_bipush d_Crd_digitsOf_11 (nI 9) (by decide) ?_
  refine mj_icmpgtN d_Crd_digitsOf_13 31 rfl (by omega) (fun c_13 => ?_) (fun c_13 => ?_)
  · refine mj_iconst d_Crd_digitsOf_31 (-1) (by decide) ?_
    refine mj_iret d_Crd_digitsOf_32 rfl rfl (Nat.le_refl _) (Nat.le_refl _) ?_
    unfold dgV at kP
    first
      | (rw [if_pos (by omega)] at kP; exact kP)
      | (rw [if_neg (by omega)] at kP; exact kP)
  · refine mj_iload_n d_Crd_digitsOf_16 rfl ?_
    refine mj_bipush d_Crd_digitsOf_17 (nI 9) (by decide) ?_
    refine mj_icmpgtN d_Crd_digitsOf_19 31 rfl (by omega) (fun c_19 => ?_) (fun c_19 => ?_)
    · refine mj_iconst d_Crd_digitsOf_31 (-1) (by decide) ?_
      refine mj_iret d_Crd_digitsOf_32 rfl rfl (Nat.le_refl _) (Nat.le_refl _) ?_
      unfold dgV at kP
      first
        | (rw [if_pos (by omega)] at kP; exact kP)
        | (rw [if_neg (by omega)] at kP; exact kP)
    · refine mj_iload_n d_Crd_digitsOf_22 rfl ?_
      refine mj_bipush d_Crd_digitsOf_23 (nI 10) (by decide) ?_
      refine mj_imul d_Crd_digitsOf_25 ?_
      refine mj_iload_n d_Crd_digitsOf_26 rfl ?_
      refine mj_iadd d_Crd_digitsOf_27 ?_
      rw [pk_mul, nI_add]
      refine mj_goto d_Crd_digitsOf_28 32 rfl ?_
      refine mj_iret d_Crd_digitsOf_32 rfl rfl (Nat.le_refl _) (Nat.le_refl _) ?_
      unfold dgV at kP
      first
        | (rw [if_pos (by omega)] at kP; exact kP)
        | (rw [if_neg (by omega)] at kP; exact kP)
theorem dgV_ne {b : Nat} (hb : b < 256) : dgV b = -1 ↔ ¬ (b / 16 ≤ 9 ∧ b % 16 ≤ 9) := by
  unfold dgV
  split
  · next h =>
    refine ⟨fun z => absurd z ?_, fun z => absurd h z⟩
    intro z
    have e := congrArg Int32.toInt z
    rw [nI_toInt (by omega)] at e
    have e2 : (-1 : Int32).toInt = -1 := by decide
    omega
  · next h => exact ⟨fun _ => h, fun _ => rfl⟩
theorem lp_holds {L : Nat} {xs : Nat → Int32} {Post : Option Value → mHeap → Prop} {h : mHeap} {t : List Nat} {tf : Nat → Int32} (hr : RA h 1 2 40 t tf) (hb : ∀ b ∈ t, b < 256) (hn : t.length = 13) (kP : Post (some (.int (nI (if shpOk t then 1 else 0)))) h) : ∀ (m i : Nat), i + m = 13 → 8 ≤ i → (∀ j, 8 ≤ j → j < i → t.getD j 0 = 255) → mGo M_Crd_holdsDigits L xs (1, 22) 0 0 Post 0 0 3 [some (.ref 1), some (.int (nI i))] [] h := by
  intro m
  have kF : ∀ i, 8 ≤ i → i < 13 → t.getD i 0 ≠ 255 → Post (some (.int (nI 0))) h := by
    intro i h8 h13 hi
    rw [if0] at kP
    · exact kP
    · intro z
      rcases (show i = 8 ∨ i = 9 ∨ i = 10 ∨ i = 11 ∨ i = 12 by omega) with rfl | rfl | rfl | rfl | rfl <;> omega
  induction m with
  | zero =>
    intro i hi h8 hall
    obtain rfl : i = 13 := by omega
    refine mj_iload_n d_Crd_holdsDigits_3 rfl ?_
    refine mj_bipush d_Crd_holdsDigits_4 (nI 13) (by decide) ?_
    refine mj_icmpgeN d_Crd_holdsDigits_6 28 rfl (by omega) (fun c_6 => ?_) (fun c_6 => ?_)
    · refine mj_aload_n d_Crd_holdsDigits_28 rfl ?_
      refine mj_iconst d_Crd_holdsDigits_29 (nI 5) (by decide) ?_
      refine mj_virtual (d' := (0, 0)) (mc := 0) (ms := 0) (As := [_]) d_Crd_holdsDigits_30 cw_Row_at q_228 q_229 q_230 (ci := 0) rfl hr.1 rfl rfl (mRoomB rfl) ?_
      refine s_Row_at hr ?_
      rw [atV_in (i := 5) (by omega) (by omega)]
      refine mj_bipush d_Crd_holdsDigits_33 (nI 36) (by decide) ?_
      refine mj_icmpneN d_Crd_holdsDigits_35 68 rfl (by have := getD_lt hb 5; omega) (fun c_35 => ?_) (fun c_35 => ?_)
      · refine mj_iconst d_Crd_holdsDigits_68 (nI 0) (by decide) ?_
        refine mj_iret d_Crd_holdsDigits_69 rfl (by decide) (Nat.le_refl _) (Nat.le_refl _) ?_
        have f8 := hall 8 (by omega) (by omega)
        have f9 := hall 9 (by omega) (by omega)
        have fa := hall 10 (by omega) (by omega)
        have fb := hall 11 (by omega) (by omega)
        have fc := hall 12 (by omega) (by omega)
        first
          | (have z1 := (dgV_ne (getD_lt hb 6)).mp c_48; rw [if0 (by omega)] at kP; exact kP)
          | (have z1 := (dgV_ne (getD_lt hb 7)).mp c_61; rw [if0 (by omega)] at kP; exact kP)
          | (rw [if0 (by omega)] at kP; exact kP)
          | (have z1 : _ ∧ _ := Decidable.not_not.mp (fun z => c_48 ((dgV_ne (getD_lt hb 6)).mpr z)); have z2 : _ ∧ _ := Decidable.not_not.mp (fun z => c_61 ((dgV_ne (getD_lt hb 7)).mpr z)); rw [if1 (by omega)] at kP; exact kP)
      · refine mj_aload_n d_Crd_holdsDigits_38 rfl ?_
        refine mj_bipush d_Crd_holdsDigits_39 (nI 6) (by decide) ?_
        refine mj_virtual (d' := (0, 0)) (mc := 0) (ms := 0) (As := [_]) d_Crd_holdsDigits_41 cw_Row_at q_228 q_229 q_230 (ci := 0) rfl hr.1 rfl rfl (mRoomB rfl) ?_
        refine s_Row_at hr ?_
        rw [atV_in (i := 6) (by omega) (by omega)]
        refine mj_static (d' := (0, 0)) (mc := 0) (ms := 0) (As := [_]) d_Crd_holdsDigits_44 cw_Crd_digitsOf q_314 q_315 rfl rfl (mRoomB rfl) ?_
        refine s_Crd_digitsOf (getD_lt hb 6) ?_
        refine mj_iconst d_Crd_holdsDigits_47 (-1) (by decide) ?_
        refine mj_icmpeq d_Crd_holdsDigits_48 68 rfl (fun c_48 => ?_) (fun c_48 => ?_)
        · refine mj_iconst d_Crd_holdsDigits_68 (nI 0) (by decide) ?_
          refine mj_iret d_Crd_holdsDigits_69 rfl (by decide) (Nat.le_refl _) (Nat.le_refl _) ?_
          have f8 := hall 8 (by omega) (by omega)
          have f9 := hall 9 (by omega) (by omega)
          have fa := hall 10 (by omega) (by omega)
          have fb := hall 11 (by omega) (by omega)
          have fc := hall 12 (by omega) (by omega)
          first
            | (have z1 := (dgV_ne (getD_lt hb 6)).mp c_48; rw [if0 (by omega)] at kP; exact kP)
            | (have z1 := (dgV_ne (getD_lt hb 7)).mp c_61; rw [if0 (by omega)] at kP; exact kP)
            | (rw [if0 (by omega)] at kP; exact kP)
            | (have z1 : _ ∧ _ := Decidable.not_not.mp (fun z => c_48 ((dgV_ne (getD_lt hb 6)).mpr z)); have z2 : _ ∧ _ := Decidable.not_not.mp (fun z => c_61 ((dgV_ne (getD_lt hb 7)).mpr z)); rw [if1 (by omega)] at kP; exact kP)
        · refine mj_aload_n d_Crd_holdsDigits_51 rfl ?_
          refine mj_bipush d_Crd_holdsDigits_52 (nI 7) (by decide) ?_
          refine mj_virtual (d' := (0, 0)) (mc := 0) (ms := 0) (As := [_]) d_Crd_holdsDigits_54 cw_Row_at q_228 q_229 q_230 (ci := 0) rfl hr.1 rfl rfl (mRoomB rfl) ?_
          refine s_Row_at hr ?_
          rw [atV_in (i := 7) (by omega) (by omega)]
          refine mj_static (d' := (0, 0)) (mc := 0) (ms := 0) (As := [_]) d_Crd_holdsDigits_57 cw_Crd_digitsOf q_314 q_315 rfl rfl (mRoomB rfl) ?_
          refine s_Crd_digitsOf (getD_lt hb 7) ?_
          refine mj_iconst d_Crd_holdsDigits_60 (-1) (by decide) ?_
          refine mj_icmpeq d_Crd_holdsDigits_61 68 rfl (fun c_61 => ?_) (fun c_61 => ?_)
          · refine mj_iconst d_Crd_holdsDigits_68 (nI 0) (by decide) ?_
            refine mj_iret d_Crd_holdsDigits_69 rfl (by decide) (Nat.le_refl _) (Nat.le_refl _) ?_
            have f8 := hall 8 (by omega) (by omega)
            have f9 := hall 9 (by omega) (by omega)
            have fa := hall 10 (by omega) (by omega)
            have fb := hall 11 (by omega) (by omega)
            have fc := hall 12 (by omega) (by omega)
            first
              | (have z1 := (dgV_ne (getD_lt hb 6)).mp c_48; rw [if0 (by omega)] at kP; exact kP)
              | (have z1 := (dgV_ne (getD_lt hb 7)).mp c_61; rw [if0 (by omega)] at kP; exact kP)
              | (rw [if0 (by omega)] at kP; exact kP)
              | (have z1 : _ ∧ _ := Decidable.not_not.mp (fun z => c_48 ((dgV_ne (getD_lt hb 6)).mpr z)); have z2 : _ ∧ _ := Decidable.not_not.mp (fun z => c_61 ((dgV_ne (getD_lt hb 7)).mpr z)); rw [if1 (by omega)] at kP; exact kP)
          · refine mj_iconst d_Crd_holdsDigits_64 (nI 1) (by decide) ?_
            refine mj_goto d_Crd_holdsDigits_65 69 rfl ?_
            refine mj_iret d_Crd_holdsDigits_69 rfl (by decide) (Nat.le_refl _) (Nat.le_refl _) ?_
            have f8 := hall 8 (by omega) (by omega)
            have f9 := hall 9 (by omega) (by omega)
            have fa := hall 10 (by omega) (by omega)
            have fb := hall 11 (by omega) (by omega)
            have fc := hall 12 (by omega) (by omega)
            first
              | (have z1 := (dgV_ne (getD_lt hb 6)).mp c_48; rw [if0 (by omega)] at kP; exact kP)
              | (have z1 := (dgV_ne (getD_lt hb 7)).mp c_61; rw [if0 (by omega)] at kP; exact kP)
              | (rw [if0 (by omega)] at kP; exact kP)
              | (have z1 : _ ∧ _ := Decidable.not_not.mp (fun z => c_48 ((dgV_ne (getD_lt hb 6)).mpr z)); have z2 : _ ∧ _ := Decidable.not_not.mp (fun z => c_61 ((dgV_ne (getD_lt hb 7)).mpr z)); rw [if1 (by omega)] at kP; exact kP)
    · omega
  | succ m ih =>
    intro i hi h8 hall
    refine mj_iload_n d_Crd_holdsDigits_3 rfl ?_
    refine mj_bipush d_Crd_holdsDigits_4 (nI 13) (by decide) ?_
    refine mj_icmpgeN d_Crd_holdsDigits_6 28 rfl (by omega) (fun c_6 => ?_) (fun c_6 => ?_)
    · omega
    · refine mj_aload_n d_Crd_holdsDigits_9 rfl ?_
      refine mj_iload_n d_Crd_holdsDigits_10 rfl ?_
      refine mj_virtual (d' := (0, 0)) (mc := 0) (ms := 0) (As := [_]) d_Crd_holdsDigits_11 cw_Row_at q_228 q_229 q_230 (ci := 0) rfl hr.1 rfl rfl (mRoomB rfl) ?_
      refine s_Row_at hr ?_
      rw [atV_in (i := i) (by omega) (by omega)]
      refine mj_sipush d_Crd_holdsDigits_14 (nI 255) (by decide) ?_
      refine mj_icmpeqN d_Crd_holdsDigits_17 22 rfl (by have := getD_lt hb i; omega) (fun c_17 => ?_) (fun c_17 => ?_)
      · refine mj_iinc d_Crd_holdsDigits_22 rfl (by decide) (nI (i + 1)) (nI_1 i) ?_
        dsimp only [mSt1, mSt2, mKill, Nat.reduceAdd]
        refine mj_goto d_Crd_holdsDigits_25 3 rfl ?_
        refine ih (i + 1) (by omega) (by omega) (fun j h1 h2 => ?_)
        by_cases e : j = i
        · subst e; exact c_17
        · exact hall j h1 (by omega)
      · refine mj_iconst d_Crd_holdsDigits_20 (nI 0) (by decide) ?_
        refine mj_iret d_Crd_holdsDigits_21 rfl (by decide) (Nat.le_refl _) (Nat.le_refl _) ?_
        exact kF i (by omega) (by omega) c_17
theorem s_Crd_holdsDigits {L : Nat} {xs : Nat → Int32} {Post : Option Value → mHeap → Prop} {h : mHeap} {t : List Nat} {tf : Nat → Int32} (hr : RA h 1 2 40 t tf) (hb : ∀ b ∈ t, b < 256) (hn : t.length = 13) (kP : Post (some (.int (nI (if shpOk t then 1 else 0)))) h) : mMet M_Crd_holdsDigits L xs (1, 22) 0 0 [.ref 1] h Post := by
  refine mMet_of rfl (Nat.le_of_ble_eq_true rfl) ?_
  refine mj_bipush d_Crd_holdsDigits_0 (nI 8) (by decide) ?_
  refine mj_istore_n d_Crd_holdsDigits_2 (by decide) ?_
  dsimp only [mSt1, mSt2, mKill, Nat.reduceAdd]
  exact lp_holds hr hb hn kP 5 8 (by omega) (by omega) (fun j h1 h2 => by omega)
