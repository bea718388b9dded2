theorem RA_9 {h : mHeap} {k k' cap : Nat} {l : List Nat} {f : Nat → Int32} {x : mCell} (hr : RA h k k' cap l f) (h1 : 9 ≠ k) (h2 : 9 ≠ k') : RA (h.set 9 x) k k' cap l f := ⟨gne hr.1 h1, gne hr.2.1 h2, hr.2.2⟩
theorem r34 {h : mHeap} {k : Nat} {x : mCell} {l : List Nat} {f : Nat → Int32} (hk : h[k]? = some x) (h1 : 3 ≠ k) (h2 : 4 ≠ k) : (rPut h 3 4 32 l f)[k]? = some x := (rPut_get h1 h2).trans hk
theorem cmp0 {a b : Int64} : lg_cmp a b = 0 ↔ a = b := by
  unfold lg_cmp
  constructor
  · intro h
    split at h
    · exact absurd h (by decide)
    · split at h
      · next e => exact e
      · exact absurd h (by decide)
  · intro h
    subst h
    rw [if_neg (by rw [gt_iff_lt, Int64.lt_iff_toInt_lt]; omega), if_pos rfl]
theorem lN_inj {a b : Nat} (ha : a < 2 ^ 63) (hb : b < 2 ^ 63) (h : lN a = lN b) : a = b := (pk_lEQ ha hb).mp h
theorem amtN_lt {t : List Nat} {p c : Nat} (hb : ∀ b ∈ t, b < 256) (hc : c ≤ 6) : amtN t p c < 2 ^ 48 := by
  have h1 := beV_lt ((t.drop p).take c) (fun b h => hb b (List.mem_of_mem_drop (List.mem_of_mem_take h)))
  have h2 : ((t.drop p).take c).length ≤ 6 := by rw [List.length_take]; omega
  have h3 : 256 ^ ((t.drop p).take c).length ≤ 256 ^ 6 := Nat.pow_le_pow_right (by decide) h2
  unfold amtN
  have h4 : (256 : Nat) ^ 6 = 2 ^ 48 := by decide
  omega
theorem amt2 {t : List Nat} {p : Nat} (hp : p + 2 ≤ t.length) : amtN t p 2 = 256 * t.getD p 0 + t.getD (p + 1) 0 := by
  unfold amtN
  have e : (t.drop p).take 2 = [t.getD p 0, t.getD (p + 1) 0] := by
    have h0 : t[p]? = some (t.getD p 0) := by rw [List.getD_eq_getElem?_getD, List.getElem?_eq_getElem (by omega)]; rfl
    have h1 : t[p + 1]? = some (t.getD (p + 1) 0) := by rw [List.getD_eq_getElem?_getD, List.getElem?_eq_getElem (by omega)]; rfl
    rw [List.take_succ, List.take_succ, List.take_zero, List.getElem?_drop, List.getElem?_drop, Nat.add_zero, h0, h1]
    rfl
  rw [e]
  simp [beV]
  omega
theorem s_Crd_tell {L : Nat} {xs : Nat → Int32} {Post : Option Value → mHeap → Prop} {h : mHeap} {t : List Nat} {tf : Nat → Int32} (hr : RA h 1 2 40 t tf) (hb : ∀ b ∈ t, b < 256) {rf : Nat → Int32} (hq : RA h 3 4 32 [] rf) {co cu tr an sg am pv : Nat} (h9 : h[9]? = some (cCrd co cu tr an sg am pv)) (h4 : t.length = 4) (hu : cu < 65536) (ht : tr ≤ 3) (kP : ∀ f, Rf (if t.getD 3 0 = 54 then [159, 54, 2, cu / 256, cu % 256] else [159, 23, 1, tr]) f → Post (some (.int (nI 36864))) (rPut h 3 4 32 (if t.getD 3 0 = 54 then [159, 54, 2, cu / 256, cu % 256] else [159, 23, 1, tr]) f)) : mMet M_Crd_tell L xs (3, 70) 0 0 [.ref 9, .ref 1, .ref 3] h Post := by
  refine mMet_of rfl (Nat.le_of_ble_eq_true rfl) ?_
  refine mj_aload_n d_Crd_tell_0 rfl ?_
  refine mj_iconst d_Crd_tell_1 (nI 3) (by decide) ?_
  refine mj_virtual (d' := (0, 0)) (mc := 0) (ms := 0) (As := [_]) d_Crd_tell_2 cw_Row_at q_228 q_229 q_230 (ci := 0) rfl hr.1 rfl rfl (mRoomB rfl) ?_
  refine s_Row_at hr ?_
  rw [atV_in (i := 3) (by omega) (by omega)]
  refine mj_bipush d_Crd_tell_5 (nI 54) (by decide) ?_
  refine mj_icmpneN d_Crd_tell_7 25 rfl (by have := getD_lt hb 3; omega) (fun c_7 => ?_) (fun c_7 => ?_)
  · refine mj_aload_n d_Crd_tell_25 rfl ?_
    refine mj_ldc d_Crd_tell_26 (nI 40727) q_322 ?_
    refine mj_aload_n d_Crd_tell_28 rfl ?_
    refine mj_get d_Crd_tell_29 fd_Crd_41 h9 rfl ?_
    refine mj_i2l d_Crd_tell_32 ?_
    rw [nI_l (by omega)]
    refine mj_iconst d_Crd_tell_33 (nI 1) (by decide) ?_
    refine mj_virtual (d' := (2, 45)) (mc := 0) (ms := 0) (As := [_, _, _]) d_Crd_tell_34 cw_Row_addTagged q_277 q_278 q_279 (ci := 0) rfl hq.1 rfl rfl (mRoomB rfl) ?_
    refine s_Row_addTagged hq (by decide) (by decide) (by decide) (fun g hg => ?_)
    rw [beL_1 (by omega)] at hg ⊢
    refine mj_ldc d_Crd_tell_37 (nI 36864) q_259 ?_
    refine mj_iret d_Crd_tell_39 rfl rfl (Nat.le_refl _) (Nat.le_refl _) ?_
    first
      | (rw [if_pos c_7] at kP; exact kP g hg)
      | (rw [if_neg c_7] at kP; exact kP g hg)
  · refine mj_aload_n d_Crd_tell_10 rfl ?_
    refine mj_ldc d_Crd_tell_11 (nI 40758) q_321 ?_
    refine mj_aload_n d_Crd_tell_13 rfl ?_
    refine mj_get d_Crd_tell_14 fd_Crd_38 h9 rfl ?_
    refine mj_i2l d_Crd_tell_17 ?_
    rw [nI_l (by omega)]
    refine mj_iconst d_Crd_tell_18 (nI 2) (by decide) ?_
    refine mj_virtual (d' := (2, 45)) (mc := 0) (ms := 0) (As := [_, _, _]) d_Crd_tell_19 cw_Row_addTagged q_277 q_278 q_279 (ci := 0) rfl hq.1 rfl rfl (mRoomB rfl) ?_
    refine s_Row_addTagged hq (by decide) (by decide) (by decide) (fun g hg => ?_)
    rw [beL_2 hu] at hg ⊢
    refine mj_goto d_Crd_tell_22 37 rfl ?_
    refine mj_ldc d_Crd_tell_37 (nI 36864) q_259 ?_
    refine mj_iret d_Crd_tell_39 rfl rfl (Nat.le_refl _) (Nat.le_refl _) ?_
    first
      | (rw [if_pos c_7] at kP; exact kP g hg)
      | (rw [if_neg c_7] at kP; exact kP g hg)
theorem s_Crd_decide {L : Nat} {xs : Nat → Int32} {Post : Option Value → mHeap → Prop} {h : mHeap} {t : List Nat} {v : Int64} {co cu tr an sg am pv : Nat} (h9 : h[9]? = some (cCrd co cu tr an sg am pv)) (hb : ∀ b ∈ t, b < 256) (ham : am < 2 ^ 48) (hsg : sg = 2 ∨ sg = 3) (han : an < 1000) (hpv : pv < 2) (hv : sg = 3 → v = lN (256 * t.getD 15 0 + t.getD 16 0)) (kP : Post (some (.int (nI (givN t am sg an pv)))) h) : mMet M_Crd_decide L xs (0, 0) 0 0 [.ref 9, .int (nI (t.getD 2 0)), .long (lN (amtN t 5 6)), .long v] h Post := by
  refine mMet_of rfl (Nat.le_of_ble_eq_true rfl) ?_
  have p2 := getD_lt hb 2
  have pa := amtN_lt hb (p := 5) (c := 6) (by decide)
  refine mj_lload_n d_Crd_decide_0 rfl ?_
  refine mj_aload_n d_Crd_decide_1 rfl ?_
  refine mj_get d_Crd_decide_2 fd_Crd_50 h9 rfl ?_
  refine mj_lcmp d_Crd_decide_5 ?_
  refine mj_ifne d_Crd_decide_6 13 rfl (fun c_6 => ?_) (fun c_6 => ?_)
  · refine mj_iconst d_Crd_decide_13 (nI 0) (by decide) ?_
    refine mj_iret d_Crd_decide_14 rfl rfl (Nat.le_refl _) (Nat.le_refl _) ?_
    unfold givN at kP
    first
      | (rw [if_pos (Or.inl (fun z => c_6 (cmp0.mpr (by rw [z])))) ] at kP; exact kP)
      | (rw [if_pos (Or.inr (by omega))] at kP; exact kP)
  · refine mj_iload_n d_Crd_decide_9 rfl ?_
    refine mj_ifneN d_Crd_decide_10 15 rfl (by omega) (fun c_10 => ?_) (fun c_10 => ?_)
    · refine mj_aload_n d_Crd_decide_15 rfl ?_
      refine mj_get d_Crd_decide_16 fd_Crd_47 h9 rfl ?_
      refine mj_iconst d_Crd_decide_19 (nI 2) (by decide) ?_
      refine mj_icmpneN d_Crd_decide_20 54 rfl (by omega) (fun c_20 => ?_) (fun c_20 => ?_)
      · refine mj_iload_n d_Crd_decide_54 rfl ?_
        refine mj_bipush d_Crd_decide_55 (nI 64) (by decide) ?_
        refine mj_icmpneN d_Crd_decide_57 74 rfl (by omega) (fun c_57 => ?_) (fun c_57 => ?_)
        · refine mj_iconst d_Crd_decide_74 (nI 0) (by decide) ?_
          refine mj_iret d_Crd_decide_75 rfl rfl (Nat.le_refl _) (Nat.le_refl _) ?_
          have ea := lN_inj (by omega) (by omega) (cmp0.mp c_6)
          have p15 := getD_lt hb 15
          have p16 := getD_lt hb 16
          unfold givN at kP
          rw [if_neg (by omega), if_neg (by omega)] at kP
          first
            | (have e2 := lN_inj (b := 12336) (by omega) (by decide) ((hv (by omega)).symm.trans (cmp0.mp c_66)); rw [if_pos (by omega)] at kP; exact kP)
            | (rw [if_neg (fun z => c_66 (cmp0.mpr (by rw [hv (by omega), z.2.1, z.2.2]; rfl)))] at kP; exact kP)
            | (rw [if_neg (by omega)] at kP; exact kP)
        · refine mj_lload d_Crd_decide_60 rfl ?_
          refine mj_ldc2 d_Crd_decide_62 12336 q_331 ?_
          refine mj_lcmp d_Crd_decide_65 ?_
          refine mj_ifne d_Crd_decide_66 74 rfl (fun c_66 => ?_) (fun c_66 => ?_)
          · refine mj_iconst d_Crd_decide_74 (nI 0) (by decide) ?_
            refine mj_iret d_Crd_decide_75 rfl rfl (Nat.le_refl _) (Nat.le_refl _) ?_
            have ea := lN_inj (by omega) (by omega) (cmp0.mp c_6)
            have p15 := getD_lt hb 15
            have p16 := getD_lt hb 16
            unfold givN at kP
            rw [if_neg (by omega), if_neg (by omega)] at kP
            first
              | (have e2 := lN_inj (b := 12336) (by omega) (by decide) ((hv (by omega)).symm.trans (cmp0.mp c_66)); rw [if_pos (by omega)] at kP; exact kP)
              | (rw [if_neg (fun z => c_66 (cmp0.mpr (by rw [hv (by omega), z.2.1, z.2.2]; rfl)))] at kP; exact kP)
              | (rw [if_neg (by omega)] at kP; exact kP)
          · refine mj_bipush d_Crd_decide_69 (nI 64) (by decide) ?_
            refine mj_goto d_Crd_decide_71 75 rfl ?_
            refine mj_iret d_Crd_decide_75 rfl rfl (Nat.le_refl _) (Nat.le_refl _) ?_
            have ea := lN_inj (by omega) (by omega) (cmp0.mp c_6)
            have p15 := getD_lt hb 15
            have p16 := getD_lt hb 16
            unfold givN at kP
            rw [if_neg (by omega), if_neg (by omega)] at kP
            first
              | (have e2 := lN_inj (b := 12336) (by omega) (by decide) ((hv (by omega)).symm.trans (cmp0.mp c_66)); rw [if_pos (by omega)] at kP; exact kP)
              | (rw [if_neg (fun z => c_66 (cmp0.mpr (by rw [hv (by omega), z.2.1, z.2.2]; rfl)))] at kP; exact kP)
              | (rw [if_neg (by omega)] at kP; exact kP)
      · refine mj_iload_n d_Crd_decide_23 rfl ?_
        refine mj_sipush d_Crd_decide_24 (nI 128) (by decide) ?_
        refine mj_icmpeqN d_Crd_decide_27 45 rfl (by omega) (fun c_27 => ?_) (fun c_27 => ?_)
        · refine mj_sipush d_Crd_decide_45 (nI 128) (by decide) ?_
          refine mj_goto d_Crd_decide_48 53 rfl ?_
          refine mj_iret d_Crd_decide_53 rfl rfl (Nat.le_refl _) (Nat.le_refl _) ?_
          have ea := lN_inj (by omega) (by omega) (cmp0.mp c_6)
          unfold givN at kP
          rw [if_neg (by omega), if_pos (by omega)] at kP
          first
            | (rw [if_pos (by omega)] at kP; exact kP)
            | (rw [if_neg (by omega)] at kP; exact kP)
        · refine mj_aload_n d_Crd_decide_30 rfl ?_
          refine mj_get d_Crd_decide_31 fd_Crd_54 h9 rfl ?_
          refine mj_ifeqN d_Crd_decide_34 45 rfl (by omega) (fun c_34 => ?_) (fun c_34 => ?_)
          · refine mj_sipush d_Crd_decide_45 (nI 128) (by decide) ?_
            refine mj_goto d_Crd_decide_48 53 rfl ?_
            refine mj_iret d_Crd_decide_53 rfl rfl (Nat.le_refl _) (Nat.le_refl _) ?_
            have ea := lN_inj (by omega) (by omega) (cmp0.mp c_6)
            unfold givN at kP
            rw [if_neg (by omega), if_pos (by omega)] at kP
            first
              | (rw [if_pos (by omega)] at kP; exact kP)
              | (rw [if_neg (by omega)] at kP; exact kP)
          · refine mj_aload_n d_Crd_decide_37 rfl ?_
            refine mj_get d_Crd_decide_38 fd_Crd_44 h9 rfl ?_
            refine mj_iconst d_Crd_decide_41 (nI 2) (by decide) ?_
            refine mj_icmpltN d_Crd_decide_42 51 rfl (by omega) (fun c_42 => ?_) (fun c_42 => ?_)
            · refine mj_bipush d_Crd_decide_51 (nI 64) (by decide) ?_
              refine mj_iret d_Crd_decide_53 rfl rfl (Nat.le_refl _) (Nat.le_refl _) ?_
              have ea := lN_inj (by omega) (by omega) (cmp0.mp c_6)
              unfold givN at kP
              rw [if_neg (by omega), if_pos (by omega)] at kP
              first
                | (rw [if_pos (by omega)] at kP; exact kP)
                | (rw [if_neg (by omega)] at kP; exact kP)
            · refine mj_sipush d_Crd_decide_45 (nI 128) (by decide) ?_
              refine mj_goto d_Crd_decide_48 53 rfl ?_
              refine mj_iret d_Crd_decide_53 rfl rfl (Nat.le_refl _) (Nat.le_refl _) ?_
              have ea := lN_inj (by omega) (by omega) (cmp0.mp c_6)
              unfold givN at kP
              rw [if_neg (by omega), if_pos (by omega)] at kP
              first
                | (rw [if_pos (by omega)] at kP; exact kP)
                | (rw [if_neg (by omega)] at kP; exact kP)
    · refine mj_iconst d_Crd_decide_13 (nI 0) (by decide) ?_
      refine mj_iret d_Crd_decide_14 rfl rfl (Nat.le_refl _) (Nat.le_refl _) ?_
      unfold givN at kP
      first
        | (rw [if_pos (Or.inl (fun z => c_6 (cmp0.mpr (by rw [z])))) ] at kP; exact kP)
        | (rw [if_pos (Or.inr (by omega))] at kP; exact kP)
theorem s_Crd_prove {L : Nat} {xs : Nat → Int32} {Post : Option Value → mHeap → Prop} {h : mHeap} {t : List Nat} {tf : Nat → Int32} (hr : RA h 1 2 40 t tf) (hb : ∀ b ∈ t, b < 256) {co cu tr an sg am pv : Nat} (h9 : h[9]? = some (cCrd co cu tr an sg am pv)) (hn : t.length = 13) (hco : co ≤ 9999) (ht : tr ≤ 3) (k1 : tr = 0 → Post (some (.int (nI 27011))) h) (k2 : tr ≠ 0 → ¬ shpOk t → Post (some (.int (nI 27264))) h) (k3 : tr ≠ 0 → shpOk t → pinN t = co → Post (some (.int (nI 36864))) (h.set 9 (cCrd co cu 3 an sg am 1))) (k4 : tr ≠ 0 → shpOk t → pinN t ≠ co → Post (some (.int (nI (25536 + (tr - 1))))) (h.set 9 (cCrd co cu (tr - 1) an sg am 0))) : mMet M_Crd_prove L xs (2, 43) 0 0 [.ref 9, .ref 1] h Post := by
  refine mMet_of rfl (Nat.le_of_ble_eq_true rfl) ?_
  refine mj_aload_n d_Crd_prove_0 rfl ?_
  refine mj_get d_Crd_prove_1 fd_Crd_41 h9 rfl ?_
  refine mj_ifneN d_Crd_prove_4 11 rfl (by omega) (fun c_4 => ?_) (fun c_4 => ?_)
  · refine mj_aload_n d_Crd_prove_11 rfl ?_
    refine mj_static (d' := (1, 22)) (mc := 0) (ms := 0) (As := [_]) d_Crd_prove_12 cw_Crd_holdsDigits q_311 q_312 rfl rfl (mRoomB rfl) ?_
    refine s_Crd_holdsDigits hr hb hn ?_
    refine mj_ifneN d_Crd_prove_15 22 rfl (by split <;> omega) (fun c_15 => ?_) (fun c_15 => ?_)
    · have sh : shpOk t := Decidable.byContradiction (fun z => by rw [if_neg z] at c_15; omega)
      have b6 := getD_lt hb 6
      have b7 := getD_lt hb 7
      refine mj_aload_n d_Crd_prove_22 rfl ?_
      refine mj_aload_n d_Crd_prove_23 rfl ?_
      refine mj_bipush d_Crd_prove_24 (nI 6) (by decide) ?_
      refine mj_virtual (d' := (0, 0)) (mc := 0) (ms := 0) (As := [_]) d_Crd_prove_26 cw_Row_at q_228 q_229 q_230 (ci := 0) rfl hr.1 rfl rfl (mRoomB rfl) ?_
      refine s_Row_at hr ?_
      rw [atV_in (i := 6) (by omega) (by omega)]
      refine mj_static (d' := (0, 0)) (mc := 0) (ms := 0) (As := [_]) d_Crd_prove_29 cw_Crd_digitsOf q_314 q_315 rfl rfl (mRoomB rfl) ?_
      refine s_Crd_digitsOf b6 ?_
      rw [show dgV (t.getD 6 0) = nI (t.getD 6 0 / 16 * 10 + t.getD 6 0 % 16) by unfold dgV; rw [if_pos (by omega)]]
      refine mj_bipush d_Crd_prove_32 (nI 100) (by decide) ?_
      refine mj_imul d_Crd_prove_34 ?_
      rw [pk_mul]
      refine mj_aload_n d_Crd_prove_35 rfl ?_
      refine mj_bipush d_Crd_prove_36 (nI 7) (by decide) ?_
      refine mj_virtual (d' := (0, 0)) (mc := 0) (ms := 0) (As := [_]) d_Crd_prove_38 cw_Row_at q_228 q_229 q_230 (ci := 0) rfl hr.1 rfl rfl (mRoomB rfl) ?_
      refine s_Row_at hr ?_
      rw [atV_in (i := 7) (by omega) (by omega)]
      refine mj_static (d' := (0, 0)) (mc := 0) (ms := 0) (As := [_]) d_Crd_prove_41 cw_Crd_digitsOf q_314 q_315 rfl rfl (mRoomB rfl) ?_
      refine s_Crd_digitsOf b7 ?_
      rw [show dgV (t.getD 7 0) = nI (t.getD 7 0 / 16 * 10 + t.getD 7 0 % 16) by unfold dgV; rw [if_pos (by omega)]]
      refine mj_iadd d_Crd_prove_44 ?_
      rw [nI_add]
      refine mj_aload_n d_Crd_prove_45 rfl ?_
      refine mj_get d_Crd_prove_46 fd_Crd_34 h9 rfl ?_
      refine mj_icmpneN d_Crd_prove_49 56 rfl (by omega) (fun c_49 => ?_) (fun c_49 => ?_)
      · refine mj_iconst d_Crd_prove_56 (nI 0) (by decide) ?_
        refine mj_put d_Crd_prove_57 fd_Crd_54 ft_Crd_9 h9 (Nat.le_of_ble_eq_true rfl) rfl rfl ?_
        dsimp only [List.set]
        refine mj_aload_n d_Crd_prove_60 rfl ?_
        refine mj_get d_Crd_prove_61 fd_Crd_54 (gself h9) rfl ?_
        refine mj_ifeqN d_Crd_prove_64 75 rfl (by omega) (fun c_64 => ?_) (fun c_64 => ?_)
        · refine mj_aload_n d_Crd_prove_75 rfl ?_
          refine mj_dup d_Crd_prove_76 rfl ?_
          refine mj_get d_Crd_prove_77 fd_Crd_41 (gself h9) rfl ?_
          refine mj_iconst d_Crd_prove_80 (nI 1) (by decide) ?_
          refine mj_isub d_Crd_prove_81 ?_
          rw [pk_sub (by omega)]
          refine mj_put d_Crd_prove_82 fd_Crd_41 ft_Crd_5 (gself h9) (Nat.le_of_ble_eq_true rfl) rfl rfl ?_
          rw [List.set_set]
          dsimp only [List.set]
          refine mj_sipush d_Crd_prove_85 (nI 25536) (by decide) ?_
          refine mj_aload_n d_Crd_prove_88 rfl ?_
          refine mj_get d_Crd_prove_89 fd_Crd_41 (gself h9) rfl ?_
          refine mj_iadd d_Crd_prove_92 ?_
          rw [nI_add]
          refine mj_iret d_Crd_prove_93 rfl rfl (Nat.le_refl _) (Nat.le_refl _) ?_
          first
            | omega
            | exact k4 (by omega) sh (by unfold pinN; omega)
        · refine mj_aload_n d_Crd_prove_67 rfl ?_
          refine mj_iconst d_Crd_prove_68 (nI 3) (by decide) ?_
          refine mj_put d_Crd_prove_69 fd_Crd_41 ft_Crd_5 (gself h9) (Nat.le_of_ble_eq_true rfl) rfl rfl ?_
          rw [List.set_set]
          dsimp only [List.set]
          refine mj_ldc d_Crd_prove_72 (nI 36864) q_259 ?_
          refine mj_iret d_Crd_prove_74 rfl rfl (Nat.le_refl _) (Nat.le_refl _) ?_
          first
            | omega
            | exact k3 (by omega) sh (by unfold pinN; omega)
      · refine mj_iconst d_Crd_prove_52 (nI 1) (by decide) ?_
        refine mj_goto d_Crd_prove_53 57 rfl ?_
        refine mj_put d_Crd_prove_57 fd_Crd_54 ft_Crd_9 h9 (Nat.le_of_ble_eq_true rfl) rfl rfl ?_
        dsimp only [List.set]
        refine mj_aload_n d_Crd_prove_60 rfl ?_
        refine mj_get d_Crd_prove_61 fd_Crd_54 (gself h9) rfl ?_
        refine mj_ifeqN d_Crd_prove_64 75 rfl (by omega) (fun c_64 => ?_) (fun c_64 => ?_)
        · refine mj_aload_n d_Crd_prove_75 rfl ?_
          refine mj_dup d_Crd_prove_76 rfl ?_
          refine mj_get d_Crd_prove_77 fd_Crd_41 (gself h9) rfl ?_
          refine mj_iconst d_Crd_prove_80 (nI 1) (by decide) ?_
          refine mj_isub d_Crd_prove_81 ?_
          rw [pk_sub (by omega)]
          refine mj_put d_Crd_prove_82 fd_Crd_41 ft_Crd_5 (gself h9) (Nat.le_of_ble_eq_true rfl) rfl rfl ?_
          rw [List.set_set]
          dsimp only [List.set]
          refine mj_sipush d_Crd_prove_85 (nI 25536) (by decide) ?_
          refine mj_aload_n d_Crd_prove_88 rfl ?_
          refine mj_get d_Crd_prove_89 fd_Crd_41 (gself h9) rfl ?_
          refine mj_iadd d_Crd_prove_92 ?_
          rw [nI_add]
          refine mj_iret d_Crd_prove_93 rfl rfl (Nat.le_refl _) (Nat.le_refl _) ?_
          first
            | omega
            | exact k4 (by omega) sh (by unfold pinN; omega)
        · refine mj_aload_n d_Crd_prove_67 rfl ?_
          refine mj_iconst d_Crd_prove_68 (nI 3) (by decide) ?_
          refine mj_put d_Crd_prove_69 fd_Crd_41 ft_Crd_5 (gself h9) (Nat.le_of_ble_eq_true rfl) rfl rfl ?_
          rw [List.set_set]
          dsimp only [List.set]
          refine mj_ldc d_Crd_prove_72 (nI 36864) q_259 ?_
          refine mj_iret d_Crd_prove_74 rfl rfl (Nat.le_refl _) (Nat.le_refl _) ?_
          first
            | omega
            | exact k3 (by omega) sh (by unfold pinN; omega)
    · refine mj_sipush d_Crd_prove_18 (nI 27264) (by decide) ?_
      refine mj_iret d_Crd_prove_21 rfl rfl (Nat.le_refl _) (Nat.le_refl _) ?_
      exact k2 (by omega) (fun z => by rw [if_pos z] at c_15; omega)
  · refine mj_sipush d_Crd_prove_7 (nI 27011) (by decide) ?_
    refine mj_iret d_Crd_prove_10 rfl rfl (Nat.le_refl _) (Nat.le_refl _) ?_
    exact k1 (by omega)
theorem s_Crd_read {L : Nat} {xs : Nat → Int32} {Post : Option Value → mHeap → Prop} {h : mHeap} {t : List Nat} {tf : Nat → Int32} (hr : RA h 1 2 40 t tf) (hb : ∀ b ∈ t, b < 256) {rf : Nat → Int32} (hq : RA h 3 4 32 [] rf) {co cu tr an sg am pv : Nat} (h9 : h[9]? = some (cCrd co cu tr an sg am pv)) {cnt : Nat → Nat} {rc : Nat → List Nat} {fb fs fc : Nat → Int32} (h12 : h[12]? = some cFil) (h13 : h[13]? = some (cArr 360 fb)) (h14 : h[14]? = some (cArr 12 fs)) (h15 : h[15]? = some (cArr 4 fc)) (hF : FR cnt rc fb fs fc) (h4 : t.length = 4) (k1 : (t.getD 3 0 / 8 = 0 ∨ 4 < t.getD 3 0 / 8 ∨ cnt (t.getD 3 0 / 8 - 1) = 0) → Post (some (.int (nI 27266))) h) (k2 : ¬ (t.getD 3 0 / 8 = 0 ∨ 4 < t.getD 3 0 / 8 ∨ cnt (t.getD 3 0 / 8 - 1) = 0) → (t.getD 2 0 = 0 ∨ cnt (t.getD 3 0 / 8 - 1) < t.getD 2 0) → Post (some (.int (nI 27267))) h) (k3 : ¬ (t.getD 3 0 / 8 = 0 ∨ 4 < t.getD 3 0 / 8 ∨ cnt (t.getD 3 0 / 8 - 1) = 0) → ¬ (t.getD 2 0 = 0 ∨ cnt (t.getD 3 0 / 8 - 1) < t.getD 2 0) → ∀ f, Rf ([112, (rc (3 * (t.getD 3 0 / 8 - 1) + (t.getD 2 0 - 1))).length] ++ rc (3 * (t.getD 3 0 / 8 - 1) + (t.getD 2 0 - 1))) f → Post (some (.int (nI 36864))) (rPut h 3 4 32 ([112, (rc (3 * (t.getD 3 0 / 8 - 1) + (t.getD 2 0 - 1))).length] ++ rc (3 * (t.getD 3 0 / 8 - 1) + (t.getD 2 0 - 1))) f)) : mMet M_Crd_read L xs (2, 46) 0 0 [.ref 9, .ref 1, .ref 3] h Post := by
  refine mMet_of rfl (Nat.le_of_ble_eq_true rfl) ?_
  have b3 := getD_lt hb 3
  have b2 := getD_lt hb 2
  refine mj_aload_n d_Crd_read_0 rfl ?_
  refine mj_iconst d_Crd_read_1 (nI 2) (by decide) ?_
  refine mj_virtual (d' := (0, 0)) (mc := 0) (ms := 0) (As := [_]) d_Crd_read_2 cw_Row_at q_228 q_229 q_230 (ci := 0) rfl hr.1 rfl rfl (mRoomB rfl) ?_
  refine s_Row_at hr ?_
  rw [atV_in (i := 2) (by omega) (by omega)]
  refine mj_istore_n d_Crd_read_5 (by decide) ?_
  dsimp only [mSt1, mSt2, mKill, Nat.reduceAdd]
  refine mj_aload_n d_Crd_read_6 rfl ?_
  refine mj_iconst d_Crd_read_7 (nI 3) (by decide) ?_
  refine mj_virtual (d' := (0, 0)) (mc := 0) (ms := 0) (As := [_]) d_Crd_read_8 cw_Row_at q_228 q_229 q_230 (ci := 0) rfl hr.1 rfl rfl (mRoomB rfl) ?_
  refine s_Row_at hr ?_
  rw [atV_in (i := 3) (by omega) (by omega)]
  refine mj_bipush d_Crd_read_11 (nI 8) (by decide) ?_
  refine mj_idiv d_Crd_read_13 (by decide) ?_
  rw [pk_div (by omega) (by decide) (by decide)]
  refine mj_istore d_Crd_read_14 (by decide) ?_
  dsimp only [mSt1, mSt2, mKill, Nat.reduceAdd]
  refine mj_aload_n d_Crd_read_16 rfl ?_
  refine mj_get d_Crd_read_17 fd_Crd_23 h9 rfl ?_
  refine mj_iload d_Crd_read_20 rfl ?_
  by_cases hz : t.getD 3 0 / 8 = 0 ∨ 4 < t.getD 3 0 / 8
  · refine mj_virtual (d' := (0, 0)) (mc := 0) (ms := 0) (As := [_]) d_Crd_read_22 cw_Fil_count q_292 q_293 q_294 (ci := 2) rfl h12 rfl rfl (mRoomB rfl) ?_
    refine s_Fil_countO hz (by omega) ?_
    refine mj_ifneN d_Crd_read_25 32 rfl (by omega) (fun c_25 => ?_) (fun c_25 => ?_)
    · omega
    · refine mj_sipush d_Crd_read_28 (nI 27266) (by decide) ?_
      refine mj_iret d_Crd_read_31 rfl rfl (Nat.le_refl _) (Nat.le_refl _) ?_
      exact k1 (by omega)
  · obtain ⟨f, hf⟩ : ∃ f, t.getD 3 0 / 8 = f + 1 := ⟨t.getD 3 0 / 8 - 1, by omega⟩
    have hf4 : f < 4 := by omega
    have hc3 := hF.2.1 f hf4
    rw [hf]
    rw [hf, Nat.add_sub_cancel] at k1 k2 k3
    refine mj_virtual (d' := (0, 0)) (mc := 0) (ms := 0) (As := [_]) d_Crd_read_22 cw_Fil_count q_292 q_293 q_294 (ci := 2) rfl h12 rfl rfl (mRoomB rfl) ?_
    refine s_Fil_count h12 h15 hF.1 hf4 ?_
    refine mj_ifneN d_Crd_read_25 32 rfl (by omega) (fun c_25 => ?_) (fun c_25 => ?_)
    · refine mj_iload_n d_Crd_read_32 rfl ?_
      refine mj_iconst d_Crd_read_33 (nI 1) (by decide) ?_
      refine mj_icmpltN d_Crd_read_34 50 rfl (by omega) (fun c_34 => ?_) (fun c_34 => ?_)
      · refine mj_sipush d_Crd_read_50 (nI 27267) (by decide) ?_
        refine mj_iret d_Crd_read_53 rfl rfl (Nat.le_refl _) (Nat.le_refl _) ?_
        exact k2 (by omega) (by omega)
      · refine mj_iload_n d_Crd_read_37 rfl ?_
        refine mj_aload_n d_Crd_read_38 rfl ?_
        refine mj_get d_Crd_read_39 fd_Crd_23 h9 rfl ?_
        refine mj_iload d_Crd_read_42 rfl ?_
        refine mj_virtual (d' := (0, 0)) (mc := 0) (ms := 0) (As := [_]) d_Crd_read_44 cw_Fil_count q_292 q_293 q_294 (ci := 2) rfl h12 rfl rfl (mRoomB rfl) ?_
        refine s_Fil_count h12 h15 hF.1 hf4 ?_
        refine mj_icmpleN d_Crd_read_47 54 rfl (by omega) (fun c_47 => ?_) (fun c_47 => ?_)
        · refine mj_aload_n d_Crd_read_54 rfl ?_
          refine mj_bipush d_Crd_read_55 (nI 112) (by decide) ?_
          refine mj_virtual (d' := (1, 21)) (mc := 0) (ms := 0) (As := [_]) d_Crd_read_57 cw_Row_openTag q_264 q_265 q_266 (ci := 0) rfl hq.1 rfl rfl (mRoomB rfl) ?_
          refine s_Row_openTag hq (by decide) (by decide) (fun g1 hg1 => ?_)
          refine mj_istore d_Crd_read_60 (by decide) ?_
          dsimp only [mSt1, mSt2, mKill, Nat.reduceAdd]
          refine mj_aload_n d_Crd_read_62 rfl ?_
          refine mj_get d_Crd_read_63 fd_Crd_23 (r34 h9 (by decide) (by decide)) rfl ?_
          obtain ⟨j, hj⟩ : ∃ j, t.getD 2 0 = j + 1 := ⟨t.getD 2 0 - 1, by omega⟩
          rw [hj]
          rw [hj, Nat.add_sub_cancel] at k3
          obtain ⟨b1, b2, b3, b4, b5⟩ := hF.2.2 f j hf4 (by omega)
          have rq1 := RA_put hq hg1 (by decide)
          refine mj_iload d_Crd_read_66 rfl ?_
          refine mj_iload_n d_Crd_read_68 rfl ?_
          refine mj_aload_n d_Crd_read_69 rfl ?_
          refine mj_virtual (d' := (1, 21)) (mc := 0) (ms := 0) (As := [_, _, _]) d_Crd_read_70 cw_Fil_copy q_301 q_302 q_303 (ci := 2) rfl (r34 h12 (by decide) (by decide)) rfl rfl (mRoomB rfl) ?_
          refine s_Fil_copy (r34 h12 (by decide) (by decide)) (r34 h13 (by decide) (by decide)) (r34 h14 (by decide) (by decide)) (r34 h15 (by decide) (by decide)) hF rq1 hf4 (by omega) (by simp [tagB]; omega) (fun g2 hg2 => ?_)
          rw [rPut_rPut (by decide)]
          have rq2 := RA_put hq hg2 (by simp [tagB]; omega)
          refine mj_aload_n d_Crd_read_73 rfl ?_
          refine mj_iload d_Crd_read_74 rfl ?_
          refine mj_virtual (d' := (0, 0)) (mc := 0) (ms := 0) (As := [_]) d_Crd_read_76 cw_Row_closeTag q_272 q_273 q_274 (ci := 0) rfl rq2.1 rfl rfl (mRoomB rfl) ?_
          refine s_Row_closeTag rq2 (by simp [tagB]) (fun g3 hg3 => ?_)
          rw [rPut_rPut (by decide)]
          have e : ([] ++ tagB 112 ++ [0] ++ rc (3 * f + j)).set (([] ++ tagB 112 ++ [0]).length - 1) (([] ++ tagB 112 ++ [0] ++ rc (3 * f + j)).length - ([] ++ tagB 112 ++ [0]).length) = [112, (rc (3 * f + j)).length] ++ rc (3 * f + j) := by
            simp [tagB]
          rw [e] at hg3 ⊢
          refine mj_ldc d_Crd_read_79 (nI 36864) q_259 ?_
          refine mj_iret d_Crd_read_81 rfl rfl (Nat.le_refl _) (Nat.le_refl _) ?_
          exact k3 (by omega) (by omega) g3 hg3
        · refine mj_sipush d_Crd_read_50 (nI 27267) (by decide) ?_
          refine mj_iret d_Crd_read_53 rfl rfl (Nat.le_refl _) (Nat.le_refl _) ?_
          exact k2 (by omega) (by omega)
    · refine mj_sipush d_Crd_read_28 (nI 27266) (by decide) ?_
      refine mj_iret d_Crd_read_31 rfl rfl (Nat.le_refl _) (Nat.le_refl _) ?_
      exact k1 (by omega)
