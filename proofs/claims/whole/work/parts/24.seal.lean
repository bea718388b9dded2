theorem lp_ready {L : Nat} {xs : Nat → Int32} {Post : Option Value → mHeap → Prop} {h : mHeap} {rf : Nat → Int32} (hq : RA h 3 4 32 [] rf) {co cu tr an sg am pv : Nat} (h9 : h[9]? = some (cCrd co cu tr an sg am pv)) {cnt : Nat → Nat} {rc : Nat → List Nat} {fb fs fc : Nat → Int32} (h12 : h[12]? = some cFil) (h15 : h[15]? = some (cArr 4 fc)) (hF : FR cnt rc fb fs fc) (kP : ∀ g, Rf ([128, 0, 24, 0] ++ entR cnt 0 4) g → mGo M_Crd_ready L xs (2, 46) 0 0 Post 0 0 128 [some (.ref 9), some (.ref 1), some (.ref 3), some (.int (nI 2)), some (.int (nI 5))] [] (rPut h 3 4 32 ([128, 0, 24, 0] ++ entR cnt 0 4) g)) : ∀ (m f : Nat) (l : List Nat) (g : Nat → Int32), f + m = 4 → l.length ≤ 4 + 4 * f → Rf l g → l ++ entR cnt f m = [128, 0, 24, 0] ++ entR cnt 0 4 → mGo M_Crd_ready L xs (2, 46) 0 0 Post 0 0 68 [some (.ref 9), some (.ref 1), some (.ref 3), some (.int (nI 2)), some (.int (nI (f + 1)))] [] (rPut h 3 4 32 l g) := by
  intro m
  induction m with
  | zero =>
    intro f l g hf hl hg hall
    refine mj_iload d_Crd_ready_68 rfl ?_
    refine mj_iconst d_Crd_ready_70 (nI 4) (by decide) ?_
    refine mj_icmpgtN d_Crd_ready_71 128 rfl (by omega) (fun c_71 => ?_) (fun c_71 => ?_)
    · rw [entR, List.append_nil] at hall
      subst hall
      obtain rfl : f = 4 := by omega
      exact kP g hg
    · omega
  | succ m ih =>
    intro f l g hf hl hg hall
    have q0 := RA_put hq hg (by omega)
    have hc3 := hF.2.1 f (by omega)
    refine mj_iload d_Crd_ready_68 rfl ?_
    refine mj_iconst d_Crd_ready_70 (nI 4) (by decide) ?_
    refine mj_icmpgtN d_Crd_ready_71 128 rfl (by omega) (fun c_71 => ?_) (fun c_71 => ?_)
    · omega
    · refine mj_aload_n d_Crd_ready_74 rfl ?_
      refine mj_get d_Crd_ready_75 fd_Crd_23 (r34 h9 (by decide) (by decide)) rfl ?_
      refine mj_iload d_Crd_ready_78 rfl ?_
      refine mj_virtual (d' := (0, 0)) (mc := 0) (ms := 0) (As := [_]) d_Crd_ready_80 cw_Fil_count q_292 q_293 q_294 (ci := 2) rfl (r34 h12 (by decide) (by decide)) rfl rfl (mRoomB rfl) ?_
      refine s_Fil_count (r34 h12 (by decide) (by decide)) (r34 h15 (by decide) (by decide)) hF.1 (k := f) (by omega) ?_
      refine mj_ifleN d_Crd_ready_83 122 rfl (by have := hF.2.1 f (by omega); omega) (fun c_83 => ?_) (fun c_83 => ?_)
      · refine mj_iinc d_Crd_ready_122 rfl (by decide) (nI (f + 1 + 1)) (nI_1 (f + 1)) ?_
        dsimp only [mSt1, mSt2, mKill, Nat.reduceAdd]
        refine mj_goto d_Crd_ready_125 68 rfl ?_
        first
          | (refine ih (f + 1) _ g4 (by omega) (by simp; omega) hg4 ?_
             rw [entR, if_pos (by omega)] at hall
             rw [← hall]; simp)
          | (refine ih (f + 1) l g (by omega) (by omega) hg ?_
             rw [entR, if_neg (by omega)] at hall
             rw [← hall]; simp)
      · refine mj_aload_n d_Crd_ready_86 rfl ?_
        refine mj_bipush d_Crd_ready_87 (nI 8) (by decide) ?_
        refine mj_iload d_Crd_ready_89 rfl ?_
        refine mj_imul d_Crd_ready_91 ?_
        rw [pk_mul]
        refine mj_virtual (d' := (0, 0)) (mc := 0) (ms := 0) (As := [_]) d_Crd_ready_92 cw_Row_add q_296 q_137 q_138 (ci := 0) rfl q0.1 rfl rfl (mRoomB rfl) ?_
        refine s_Row_add q0 (fun z => by (try simp at z); omega) (fun _ g1 hg1 => ?_)
        rw [rPut_rPut (by decide)]
        have q1 := RA_put hq hg1 (by simp; omega)
        refine mj_pop d_Crd_ready_95 rfl ?_
        refine mj_aload_n d_Crd_ready_96 rfl ?_
        refine mj_iconst d_Crd_ready_97 (nI 1) (by decide) ?_
        refine mj_virtual (d' := (0, 0)) (mc := 0) (ms := 0) (As := [_]) d_Crd_ready_98 cw_Row_add q_296 q_137 q_138 (ci := 0) rfl q1.1 rfl rfl (mRoomB rfl) ?_
        refine s_Row_add q1 (fun z => by (try simp at z); omega) (fun _ g2 hg2 => ?_)
        rw [rPut_rPut (by decide)]
        have q2 := RA_put hq hg2 (by simp; omega)
        refine mj_pop d_Crd_ready_101 rfl ?_
        refine mj_aload_n d_Crd_ready_102 rfl ?_
        refine mj_aload_n d_Crd_ready_103 rfl ?_
        refine mj_get d_Crd_ready_104 fd_Crd_23 (r34 h9 (by decide) (by decide)) rfl ?_
        refine mj_iload d_Crd_ready_107 rfl ?_
        refine mj_virtual (d' := (0, 0)) (mc := 0) (ms := 0) (As := [_]) d_Crd_ready_109 cw_Fil_count q_292 q_293 q_294 (ci := 2) rfl (r34 h12 (by decide) (by decide)) rfl rfl (mRoomB rfl) ?_
        refine s_Fil_count (r34 h12 (by decide) (by decide)) (r34 h15 (by decide) (by decide)) hF.1 (k := f) (by omega) ?_
        refine mj_virtual (d' := (0, 0)) (mc := 0) (ms := 0) (As := [_]) d_Crd_ready_112 cw_Row_add q_296 q_137 q_138 (ci := 0) rfl q2.1 rfl rfl (mRoomB rfl) ?_
        refine s_Row_add q2 (fun z => by (try simp at z); omega) (fun _ g3 hg3 => ?_)
        rw [rPut_rPut (by decide)]
        have q3 := RA_put hq hg3 (by simp; omega)
        refine mj_pop d_Crd_ready_115 rfl ?_
        refine mj_aload_n d_Crd_ready_116 rfl ?_
        refine mj_iconst d_Crd_ready_117 (nI 0) (by decide) ?_
        refine mj_virtual (d' := (0, 0)) (mc := 0) (ms := 0) (As := [_]) d_Crd_ready_118 cw_Row_add q_296 q_137 q_138 (ci := 0) rfl q3.1 rfl rfl (mRoomB rfl) ?_
        refine s_Row_add q3 (fun z => by (try simp at z); omega) (fun _ g4 hg4 => ?_)
        rw [rPut_rPut (by decide)]
        have q4 := RA_put hq hg4 (by simp; omega)
        refine mj_pop d_Crd_ready_121 rfl ?_
        refine mj_iinc d_Crd_ready_122 rfl (by decide) (nI (f + 1 + 1)) (nI_1 (f + 1)) ?_
        dsimp only [mSt1, mSt2, mKill, Nat.reduceAdd]
        refine mj_goto d_Crd_ready_125 68 rfl ?_
        first
          | (refine ih (f + 1) _ g4 (by omega) (by simp; omega) hg4 ?_
             rw [entR, if_pos (by omega)] at hall
             rw [← hall]; simp)
          | (refine ih (f + 1) l g (by omega) (by omega) hg ?_
             rw [entR, if_neg (by omega)] at hall
             rw [← hall]; simp)
theorem s_Crd_ready {L : Nat} {xs : Nat → Int32} {Post : Option Value → mHeap → Prop} {h : mHeap} {t : List Nat} {tf : Nat → Int32} (hr : RA h 1 2 40 t tf) (hb : ∀ b ∈ t, b < 256) {rf : Nat → Int32} (hq : RA h 3 4 32 [] rf) {co cu tr an sg am pv : Nat} (h9 : h[9]? = some (cCrd co cu tr an sg am pv)) {cnt : Nat → Nat} {rc : Nat → List Nat} {fb fs fc : Nat → Int32} (h12 : h[12]? = some cFil) (h15 : h[15]? = some (cArr 4 fc)) (hF : FR cnt rc fb fs fc) (h13 : t.length = 13) (kF : ¬ (t.getD 5 0 = 131 ∧ t.getD 6 0 = 6) → Post (some (.int (nI 27264))) h) (kT : t.getD 5 0 = 131 ∧ t.getD 6 0 = 6 → ∀ f, Rf (rdyR cnt) f → Post (some (.int (nI 36864))) (rPut (h.set 9 (cCrd co (cu + 1) tr an 2 (amtN t 7 6) 0)) 3 4 32 (rdyR cnt) f)) : mMet M_Crd_ready L xs (2, 46) 0 0 [.ref 9, .ref 1, .ref 3] h Post := by
  refine mMet_of rfl (Nat.le_of_ble_eq_true rfl) ?_
  have b5 := getD_lt hb 5
  have b6 := getD_lt hb 6
  refine mj_aload_n d_Crd_ready_0 rfl ?_
  refine mj_iconst d_Crd_ready_1 (nI 5) (by decide) ?_
  refine mj_iconst d_Crd_ready_2 (nI 2) (by decide) ?_
  refine mj_virtual (d' := (1, 21)) (mc := 0) (ms := 0) (As := [_, _]) d_Crd_ready_3 cw_Row_numberAt q_235 q_236 q_237 (ci := 0) rfl hr.1 rfl rfl (mRoomB rfl) ?_
  refine s_Row_numberAt hr (by decide) ?_
  rw [numV_in (by omega) hb 2 (by decide) (by omega), show beV ((t.drop 5).take 2) = amtN t 5 2 from rfl, amt2 (by omega)]
  refine mj_ldc2 d_Crd_ready_6 33542 q_290 ?_
  refine mj_lcmp d_Crd_ready_9 ?_
  refine mj_ifeq d_Crd_ready_10 17 rfl (fun c_10 => ?_) (fun c_10 => ?_)
  · have b6b : t.getD (5 + 1) 0 = t.getD 6 0 := rfl
    have e56 := lN_inj (b := 33542) (by omega) (by decide) (cmp0.mp c_10)
    have c56 : t.getD 5 0 = 131 ∧ t.getD 6 0 = 6 := by omega
    refine mj_aload_n d_Crd_ready_17 rfl ?_
    refine mj_dup d_Crd_ready_18 rfl ?_
    refine mj_get d_Crd_ready_19 fd_Crd_38 h9 rfl ?_
    refine mj_iconst d_Crd_ready_22 (nI 1) (by decide) ?_
    refine mj_iadd d_Crd_ready_23 ?_
    rw [nI_add]
    refine mj_put d_Crd_ready_24 fd_Crd_38 ft_Crd_4 h9 (Nat.le_of_ble_eq_true rfl) rfl rfl ?_
    dsimp only [List.set]
    refine mj_aload_n d_Crd_ready_27 rfl ?_
    refine mj_aload_n d_Crd_ready_28 rfl ?_
    refine mj_bipush d_Crd_ready_29 (nI 7) (by decide) ?_
    refine mj_bipush d_Crd_ready_31 (nI 6) (by decide) ?_
    refine mj_virtual (d' := (1, 21)) (mc := 0) (ms := 0) (As := [_, _]) d_Crd_ready_33 cw_Row_numberAt q_235 q_236 q_237 (ci := 0) rfl (RA_9 hr (by decide) (by decide)).1 rfl rfl (mRoomB rfl) ?_
    refine s_Row_numberAt (RA_9 hr (by decide) (by decide)) (by decide) ?_
    rw [numV_in (by omega) hb 6 (by decide) (by omega), show beV ((t.drop 7).take 6) = amtN t 7 6 from rfl]
    refine mj_put d_Crd_ready_36 fd_Crd_50 ft_Crd_8 (gself h9) (Nat.le_of_ble_eq_true rfl) rfl rfl ?_
    rw [List.set_set]
    dsimp only [List.set]
    refine mj_aload_n d_Crd_ready_39 rfl ?_
    refine mj_iconst d_Crd_ready_40 (nI 0) (by decide) ?_
    refine mj_put d_Crd_ready_41 fd_Crd_54 ft_Crd_9 (gself h9) (Nat.le_of_ble_eq_true rfl) rfl rfl ?_
    rw [List.set_set]
    dsimp only [List.set]
    refine mj_aload_n d_Crd_ready_44 rfl ?_
    refine mj_iconst d_Crd_ready_45 (nI 2) (by decide) ?_
    refine mj_put d_Crd_ready_46 fd_Crd_47 ft_Crd_7 (gself h9) (Nat.le_of_ble_eq_true rfl) rfl rfl ?_
    rw [List.set_set]
    dsimp only [List.set]
    have hq := RA_9 (x := (cCrd co (cu + 1) tr an 2 (amtN t 7 6) 0)) hq (by decide) (by decide)
    have h12 := gne (y := (cCrd co (cu + 1) tr an 2 (amtN t 7 6) 0)) (j := 9) h12 (by decide)
    have h15 := gne (y := (cCrd co (cu + 1) tr an 2 (amtN t 7 6) 0)) (j := 9) h15 (by decide)
    have h9 := gself (y := (cCrd co (cu + 1) tr an 2 (amtN t 7 6) 0)) h9
    generalize eh : h.set 9 (cCrd co (cu + 1) tr an 2 (amtN t 7 6) 0) = h1 at *
    refine mj_aload_n d_Crd_ready_49 rfl ?_
    refine mj_sipush d_Crd_ready_50 (nI 128) (by decide) ?_
    refine mj_virtual (d' := (1, 21)) (mc := 0) (ms := 0) (As := [_]) d_Crd_ready_53 cw_Row_openTag q_264 q_265 q_266 (ci := 0) rfl hq.1 rfl rfl (mRoomB rfl) ?_
    refine s_Row_openTag hq (by decide) (by decide) (fun g1 hg1 => ?_)
    have e1 : ([] ++ tagB 128 ++ [0]) = [128, 0] := by decide
    rw [e1] at hg1 ⊢
    have q1 := RA_put hq hg1 (by decide)
    refine mj_istore_n d_Crd_ready_56 (by decide) ?_
    dsimp only [mSt1, mSt2, mKill, Nat.reduceAdd]
    refine mj_aload_n d_Crd_ready_57 rfl ?_
    refine mj_ldc2 d_Crd_ready_58 6144 q_291 ?_
    refine mj_iconst d_Crd_ready_61 (nI 2) (by decide) ?_
    refine mj_virtual (d' := (1, 21)) (mc := 0) (ms := 0) (As := [_, _]) d_Crd_ready_62 cw_Row_addNumber q_132 q_133 q_134 (ci := 0) rfl q1.1 rfl rfl (mRoomB rfl) ?_
    refine s_Row_addNumber q1 (by decide) (by decide) (fun g2 hg2 => ?_)
    rw [rPut_rPut (by decide)]
    have e2 : ([128, 0] ++ beL 6144 2) = [128, 0, 24, 0] := by decide
    rw [e2] at hg2 ⊢
    refine mj_iconst d_Crd_ready_65 (nI 1) (by decide) ?_
    refine mj_istore d_Crd_ready_66 (by decide) ?_
    dsimp only [mSt1, mSt2, mKill, Nat.reduceAdd]
    refine lp_ready hq h9 h12 h15 hF (fun g hg => ?_) 4 0 [128, 0, 24, 0] g2 (by omega) (by decide) hg2 rfl
    have q3 := RA_put hq hg (by have := entR_len cnt 4 0; simp; omega)
    refine mj_aload_n d_Crd_ready_128 rfl ?_
    refine mj_iload_n d_Crd_ready_129 rfl ?_
    refine mj_virtual (d' := (0, 0)) (mc := 0) (ms := 0) (As := [_]) d_Crd_ready_130 cw_Row_closeTag q_272 q_273 q_274 (ci := 0) rfl q3.1 rfl rfl (mRoomB rfl) ?_
    refine s_Row_closeTag q3 (g := 2) (by simp) (fun g4 hg4 => ?_)
    rw [rPut_rPut (by decide)]
    have e4 : ([128, 0, 24, 0] ++ entR cnt 0 4).set (2 - 1) (([128, 0, 24, 0] ++ entR cnt 0 4).length - 2) = rdyR cnt := by unfold rdyR; simp
    rw [e4] at hg4 ⊢
    refine mj_ldc d_Crd_ready_133 (nI 36864) q_259 ?_
    refine mj_iret d_Crd_ready_135 rfl rfl (Nat.le_refl _) (Nat.le_refl _) ?_
    subst eh
    exact kT c56 g4 hg4
  · refine mj_sipush d_Crd_ready_13 (nI 27264) (by decide) ?_
    refine mj_iret d_Crd_ready_16 rfl rfl (Nat.le_refl _) (Nat.le_refl _) ?_
    exact kF (fun z => c_10 (cmp0.mpr (by rw [z.1, z.2]; rfl)))
theorem lp_give {L : Nat} {xs : Nat → Int32} {Post : Option Value → mHeap → Prop} {h : mHeap} {rf : Nat → Int32} (hq : RA h 3 4 32 [] rf) {co cu tr an sg am pv : Nat} (h9 : h[9]? = some (cCrd co cu tr an sg am pv)) {fx : Nat → Int32} {s : Nat → Nat} {base : List Nat} {gv : Nat} {sum num : Nat} (h16 : h[16]? = some cSea) (h20 : h[20]? = some (cArr 16 fx)) (hs : FA 16 s fx) (hbl : base.length = 14) (kP : ∀ g, Rf (base ++ sl8 s) g → mGo M_Crd_giveSeal L xs (4, 111) 0 0 Post 0 0 178 [some (.ref 9), some (.ref 1), some (.ref 3), some (.long (lN sum)), none, some (.long (lN num)), none, some (.int (nI gv)), some (.int (nI 2)), some (.int (nI 14)), some (.int (nI 8))] [] (rPut h 3 4 32 (base ++ sl8 s) g)) : ∀ (m i : Nat) (g : Nat → Int32), i + m = 8 → Rf (base ++ (List.range i).map s) g → mGo M_Crd_giveSeal L xs (4, 111) 0 0 Post 0 0 151 [some (.ref 9), some (.ref 1), some (.ref 3), some (.long (lN sum)), none, some (.long (lN num)), none, some (.int (nI gv)), some (.int (nI 2)), some (.int (nI 14)), some (.int (nI i))] [] (rPut h 3 4 32 (base ++ (List.range i).map s) g) := by
  intro m
  induction m with
  | zero =>
    intro i g hi hg
    refine mj_iload d_Crd_giveSeal_151 rfl ?_
    refine mj_bipush d_Crd_giveSeal_153 (nI 8) (by decide) ?_
    refine mj_icmpgeN d_Crd_giveSeal_155 178 rfl (by omega) (fun c_155 => ?_) (fun c_155 => ?_)
    · obtain rfl : i = 8 := by omega
      exact kP g hg
    · omega
  | succ m ih =>
    intro i g hi hg
    have q0 := RA_put hq hg (by simp; omega)
    refine mj_iload d_Crd_giveSeal_151 rfl ?_
    refine mj_bipush d_Crd_giveSeal_153 (nI 8) (by decide) ?_
    refine mj_icmpgeN d_Crd_giveSeal_155 178 rfl (by omega) (fun c_155 => ?_) (fun c_155 => ?_)
    · omega
    · refine mj_aload_n d_Crd_giveSeal_158 rfl ?_
      refine mj_aload_n d_Crd_giveSeal_159 rfl ?_
      refine mj_get d_Crd_giveSeal_160 fd_Crd_30 (r34 h9 (by decide) (by decide)) rfl ?_
      refine mj_iload d_Crd_giveSeal_163 rfl ?_
      refine mj_virtual (d' := (0, 0)) (mc := 0) (ms := 0) (As := [_]) d_Crd_giveSeal_165 cw_Sea_byteAt q_347 q_348 q_349 (ci := 3) rfl (r34 h16 (by decide) (by decide)) rfl rfl (mRoomB rfl) ?_
      refine s_Sea_byteAt (r34 h16 (by decide) (by decide)) (r34 h20 (by decide) (by decide)) (by omega) ?_
      rw [hs _ (by omega)]
      refine mj_virtual (d' := (0, 0)) (mc := 0) (ms := 0) (As := [_]) d_Crd_giveSeal_168 cw_Row_add q_296 q_137 q_138 (ci := 0) rfl q0.1 rfl rfl (mRoomB rfl) ?_
      refine s_Row_add q0 (fun z => by simp at z; omega) (fun _ g1 hg1 => ?_)
      rw [rPut_rPut (by decide)]
      refine mj_pop d_Crd_giveSeal_171 rfl ?_
      refine mj_iinc d_Crd_giveSeal_172 rfl (by decide) (nI (i + 1)) (nI_1 i) ?_
      dsimp only [mSt1, mSt2, mKill, Nat.reduceAdd]
      refine mj_goto d_Crd_giveSeal_175 151 rfl ?_
      have e : base ++ (List.range i).map s ++ [s i] = base ++ (List.range (i + 1)).map s := by rw [List.append_assoc, List.range_succ, List.map_append]; rfl
      rw [e] at hg1 ⊢
      exact ih (i + 1) g1 (by omega) hg1
theorem t_give {L : Nat} {xs : Nat → Int32} {Post : Option Value → mHeap → Prop} {h : mHeap} {rf : Nat → Int32} (hq : RA h 3 4 32 [] rf) {co cu tr an sg am pv : Nat} (h9 : h[9]? = some (cCrd co cu tr an sg am pv)) {frk fw ff fx ft pf : Nat → Int32} {rk : Nat → Nat} {pd : List Nat} (h16 : h[16]? = some cSea) (h17 : h[17]? = some (cArr 176 frk)) (h18 : h[18]? = some (cArr 16 fw)) (h19 : h[19]? = some (cArr 16 ff)) (h20 : h[20]? = some (cArr 16 fx)) (h21 : h[21]? = some (cArr 16 ft)) (hpd : RA h 22 23 16 pd pf) (hk : FA 176 rk frk) (hw : FA 16 (dbl (enc rk zero)) fw) (hfl : FA 16 (dbl (dbl (enc rk zero))) ff) (hbk : Bt 176 rk) {gv sum num : Nat} {w8 w9 w10 : Option Value} (hgv : gv < 256) (hpv : pv < 2) (hu : cu < 65536) (kP : ∀ g t1 f1 f, Rf (payM (lN sum) (lN num) (lN cu) gv pv) g → Rf ([119, 20, 159, 39, 1, gv, 159, 54, 2, cu / 256, cu % 256, 159, 38, 8] ++ sl8 (sealF rk (payM (lN sum) (lN num) (lN cu) gv pv))) f → Post (some (.int (nI 36864))) (rPut (sP (rPut h 22 23 16 (payM (lN sum) (lN num) (lN cu) gv pv) g) t1 f1) 3 4 32 ([119, 20, 159, 39, 1, gv, 159, 54, 2, cu / 256, cu % 256, 159, 38, 8] ++ sl8 (sealF rk (payM (lN sum) (lN num) (lN cu) gv pv))) f)) : mGo M_Crd_giveSeal L xs (4, 111) 0 0 Post 0 0 82 [some (.ref 9), some (.ref 1), some (.ref 3), some (.long (lN sum)), none, some (.long (lN num)), none, some (.int (nI gv)), w8, w9, w10] [] h := by
  refine mj_aload_n d_Crd_giveSeal_82 rfl ?_
  refine mj_get d_Crd_giveSeal_83 fd_Crd_30 h9 rfl ?_
  refine mj_aload_n d_Crd_giveSeal_86 rfl ?_
  refine mj_get d_Crd_giveSeal_87 fd_Crd_30 h9 rfl ?_
  refine mj_lload_n d_Crd_giveSeal_90 rfl ?_
  refine mj_lload d_Crd_giveSeal_91 rfl ?_
  refine mj_aload_n d_Crd_giveSeal_93 rfl ?_
  refine mj_get d_Crd_giveSeal_94 fd_Crd_38 h9 rfl ?_
  refine mj_i2l d_Crd_giveSeal_97 ?_
  rw [nI_l (by omega)]
  refine mj_iload d_Crd_giveSeal_98 rfl ?_
  refine mj_aload_n d_Crd_giveSeal_100 rfl ?_
  refine mj_get d_Crd_giveSeal_101 fd_Crd_54 h9 rfl ?_
  refine mj_virtual (d' := (2, 45)) (mc := 0) (ms := 0) (As := [_, _, _, _, _]) d_Crd_giveSeal_104 cw_Sea_payment q_332 q_333 q_334 (ci := 3) rfl h16 rfl rfl (mRoomB rfl) ?_
  refine s_Sea_payment h16 hpd hpv (fun g0 hg0 => ?_)
  have rm := RA_put hpd hg0 (by rw [payM_len]; decide)
  refine mj_virtual (d' := (3, 83)) (mc := 0) (ms := 0) (As := [_]) d_Crd_giveSeal_107 cw_Sea_run q_339 q_340 q_341 (ci := 3) rfl ((rPut_get (k := 22) (k' := 23) (cap := 16) (l := (payM (lN sum) (lN num) (lN cu) gv pv)) (f := g0) (by decide) (by decide)).trans h16) rfl rfl (mRoomB rfl) ?_
  refine s_Sea_run ((rPut_get (k := 22) (k' := 23) (cap := 16) (l := (payM (lN sum) (lN num) (lN cu) gv pv)) (f := g0) (by decide) (by decide)).trans h16) ((rPut_get (k := 22) (k' := 23) (cap := 16) (l := (payM (lN sum) (lN num) (lN cu) gv pv)) (f := g0) (by decide) (by decide)).trans h17) ((rPut_get (k := 22) (k' := 23) (cap := 16) (l := (payM (lN sum) (lN num) (lN cu) gv pv)) (f := g0) (by decide) (by decide)).trans h18) ((rPut_get (k := 22) (k' := 23) (cap := 16) (l := (payM (lN sum) (lN num) (lN cu) gv pv)) (f := g0) (by decide) (by decide)).trans h19) ((rPut_get (k := 22) (k' := 23) (cap := 16) (l := (payM (lN sum) (lN num) (lN cu) gv pv)) (f := g0) (by decide) (by decide)).trans h20) ((rPut_get (k := 22) (k' := 23) (cap := 16) (l := (payM (lN sum) (lN num) (lN cu) gv pv)) (f := g0) (by decide) (by decide)).trans h21) rm (by decide) (by decide) (by decide) (by decide) hk hw hfl hbk (payM_lt hgv) (by rw [payM_len]; decide) (fun t1 f1 hf1 => ?_)
  have hq := RA_sP (t := t1) (g := f1) (RA_other (k := 22) (k' := 23) (cap := 16) (l := (payM (lN sum) (lN num) (lN cu) gv pv)) (f := g0) hq (by decide) (by decide) (by decide) (by decide)) (by decide) (by decide) (by decide) (by decide)
  have h9 := sP_get (t := t1) (f := f1) ((rPut_get (k := 22) (k' := 23) (cap := 16) (l := (payM (lN sum) (lN num) (lN cu) gv pv)) (f := g0) (by decide) (by decide)).trans h9) (by decide) (by decide)
  have h16 := sP_get (t := t1) (f := f1) ((rPut_get (k := 22) (k' := 23) (cap := 16) (l := (payM (lN sum) (lN num) (lN cu) gv pv)) (f := g0) (by decide) (by decide)).trans h16) (by decide) (by decide)
  have h20 := sP_20 (t := t1) (f := f1) ((rPut_get (k := 22) (k' := 23) (cap := 16) (l := (payM (lN sum) (lN num) (lN cu) gv pv)) (f := g0) (by decide) (by decide)).trans h20)
  generalize eh : sP (rPut h 22 23 16 (payM (lN sum) (lN num) (lN cu) gv pv) g0) t1 f1 = h1 at *
  refine mj_aload_n d_Crd_giveSeal_110 rfl ?_
  refine mj_bipush d_Crd_giveSeal_111 (nI 119) (by decide) ?_
  refine mj_virtual (d' := (1, 21)) (mc := 0) (ms := 0) (As := [_]) d_Crd_giveSeal_113 cw_Row_openTag q_264 q_265 q_266 (ci := 0) rfl hq.1 rfl rfl (mRoomB rfl) ?_
  refine s_Row_openTag hq (by decide) (by decide) (fun g1 hg1 => ?_)
  have e1 : ([] ++ tagB 119 ++ [0]) = [119, 0] := by decide
  rw [e1] at hg1 ⊢
  have q1 := RA_put hq hg1 (by decide)
  refine mj_istore d_Crd_giveSeal_116 (by decide) ?_
  dsimp only [mSt1, mSt2, mKill, Nat.reduceAdd]
  refine mj_aload_n d_Crd_giveSeal_118 rfl ?_
  refine mj_ldc d_Crd_giveSeal_119 (nI 40743) q_345 ?_
  refine mj_iload d_Crd_giveSeal_121 rfl ?_
  refine mj_i2l d_Crd_giveSeal_123 ?_
  rw [nI_l (by omega)]
  refine mj_iconst d_Crd_giveSeal_124 (nI 1) (by decide) ?_
  refine mj_virtual (d' := (2, 45)) (mc := 0) (ms := 0) (As := [_, _, _]) d_Crd_giveSeal_125 cw_Row_addTagged q_277 q_278 q_279 (ci := 0) rfl q1.1 rfl rfl (mRoomB rfl) ?_
  refine s_Row_addTagged q1 (by decide) (by decide) (by decide) (fun g2 hg2 => ?_)
  rw [rPut_rPut (by decide)]
  have e2 : ([119, 0] ++ tagB 40743 ++ [1] ++ beL (lN gv) 1) = [119, 0, 159, 39, 1, gv] := by rw [beL_1 hgv]; rfl
  rw [e2] at hg2 ⊢
  have q2 := RA_put hq hg2 (Nat.le_of_ble_eq_true rfl)
  refine mj_aload_n d_Crd_giveSeal_128 rfl ?_
  refine mj_ldc d_Crd_giveSeal_129 (nI 40758) q_321 ?_
  refine mj_aload_n d_Crd_giveSeal_131 rfl ?_
  refine mj_get d_Crd_giveSeal_132 fd_Crd_38 (r34 h9 (by decide) (by decide)) rfl ?_
  refine mj_i2l d_Crd_giveSeal_135 ?_
  rw [nI_l (by omega)]
  refine mj_iconst d_Crd_giveSeal_136 (nI 2) (by decide) ?_
  refine mj_virtual (d' := (2, 45)) (mc := 0) (ms := 0) (As := [_, _, _]) d_Crd_giveSeal_137 cw_Row_addTagged q_277 q_278 q_279 (ci := 0) rfl q2.1 rfl rfl (mRoomB rfl) ?_
  refine s_Row_addTagged q2 (by decide) (by decide) (Nat.le_of_ble_eq_true rfl) (fun g3 hg3 => ?_)
  rw [rPut_rPut (by decide)]
  have e3 : ([119, 0, 159, 39, 1, gv] ++ tagB 40758 ++ [2] ++ beL (lN cu) 2) = [119, 0, 159, 39, 1, gv, 159, 54, 2, cu / 256, cu % 256] := by rw [beL_2 hu]; rfl
  rw [e3] at hg3 ⊢
  have q3 := RA_put hq hg3 (Nat.le_of_ble_eq_true rfl)
  refine mj_aload_n d_Crd_giveSeal_140 rfl ?_
  refine mj_ldc d_Crd_giveSeal_141 (nI 40742) q_346 ?_
  refine mj_virtual (d' := (1, 21)) (mc := 0) (ms := 0) (As := [_]) d_Crd_giveSeal_143 cw_Row_openTag q_264 q_265 q_266 (ci := 0) rfl q3.1 rfl rfl (mRoomB rfl) ?_
  refine s_Row_openTag q3 (by decide) (Nat.le_of_ble_eq_true rfl) (fun g4 hg4 => ?_)
  rw [rPut_rPut (by decide)]
  have e4 : ([119, 0, 159, 39, 1, gv, 159, 54, 2, cu / 256, cu % 256] ++ tagB 40742 ++ [0]) = [119, 0, 159, 39, 1, gv, 159, 54, 2, cu / 256, cu % 256, 159, 38, 0] := rfl
  rw [e4] at hg4 ⊢
  refine mj_istore d_Crd_giveSeal_146 (by decide) ?_
  dsimp only [mSt1, mSt2, mKill, Nat.reduceAdd]
  refine mj_iconst d_Crd_giveSeal_148 (nI 0) (by decide) ?_
  refine mj_istore d_Crd_giveSeal_149 (by decide) ?_
  dsimp only [mSt1, mSt2, mKill, Nat.reduceAdd]
  refine lp_give (base := [119, 0, 159, 39, 1, gv, 159, 54, 2, cu / 256, cu % 256, 159, 38, 0]) hq h9 h16 h20 hf1 rfl (fun g hg => ?_) 8 0 g4 (by omega) hg4
  have q5 := RA_put hq hg (by simp [sl8])
  refine mj_aload_n d_Crd_giveSeal_178 rfl ?_
  refine mj_iload d_Crd_giveSeal_179 rfl ?_
  refine mj_virtual (d' := (0, 0)) (mc := 0) (ms := 0) (As := [_]) d_Crd_giveSeal_181 cw_Row_closeTag q_272 q_273 q_274 (ci := 0) rfl q5.1 rfl rfl (mRoomB rfl) ?_
  refine s_Row_closeTag q5 (g := 14) (by simp) (fun g6 hg6 => ?_)
  rw [rPut_rPut (by decide)]
  have e6 : ([119, 0, 159, 39, 1, gv, 159, 54, 2, cu / 256, cu % 256, 159, 38, 0] ++ sl8 (sealF rk (payM (lN sum) (lN num) (lN cu) gv pv))).set (14 - 1) (([119, 0, 159, 39, 1, gv, 159, 54, 2, cu / 256, cu % 256, 159, 38, 0] ++ sl8 (sealF rk (payM (lN sum) (lN num) (lN cu) gv pv))).length - 14) = [119, 0, 159, 39, 1, gv, 159, 54, 2, cu / 256, cu % 256, 159, 38, 8] ++ sl8 (sealF rk (payM (lN sum) (lN num) (lN cu) gv pv)) := by simp [sl8]
  rw [e6] at hg6 ⊢
  have q6 := RA_put hq hg6 (by simp [sl8])
  refine mj_aload_n d_Crd_giveSeal_184 rfl ?_
  refine mj_iload d_Crd_giveSeal_185 rfl ?_
  refine mj_virtual (d' := (0, 0)) (mc := 0) (ms := 0) (As := [_]) d_Crd_giveSeal_187 cw_Row_closeTag q_272 q_273 q_274 (ci := 0) rfl q6.1 rfl rfl (mRoomB rfl) ?_
  refine s_Row_closeTag q6 (g := 2) (by simp) (fun g7 hg7 => ?_)
  rw [rPut_rPut (by decide)]
  have e7 : ([119, 0, 159, 39, 1, gv, 159, 54, 2, cu / 256, cu % 256, 159, 38, 8] ++ sl8 (sealF rk (payM (lN sum) (lN num) (lN cu) gv pv))).set (2 - 1) (([119, 0, 159, 39, 1, gv, 159, 54, 2, cu / 256, cu % 256, 159, 38, 8] ++ sl8 (sealF rk (payM (lN sum) (lN num) (lN cu) gv pv))).length - 2) = ([119, 20, 159, 39, 1, gv, 159, 54, 2, cu / 256, cu % 256, 159, 38, 8] ++ sl8 (sealF rk (payM (lN sum) (lN num) (lN cu) gv pv))) := by simp [sl8]
  rw [e7] at hg7 ⊢
  refine mj_ldc d_Crd_giveSeal_190 (nI 36864) q_259 ?_
  refine mj_iret d_Crd_giveSeal_192 rfl rfl (Nat.le_refl _) (Nat.le_refl _) ?_
  subst eh
  exact kP g0 t1 f1 g7 hg0 hg7
theorem givN_v (t : List Nat) (am sg an pv : Nat) : givN t am sg an pv = 0 ∨ givN t am sg an pv = 64 ∨ givN t am sg an pv = 128 := by
  unfold givN
  split
  · omega
  · split
    · split <;> omega
    · split <;> omega
theorem s_Crd_giveSeal {L : Nat} {xs : Nat → Int32} {Post : Option Value → mHeap → Prop} {h : mHeap} {t : List Nat} {tf : Nat → Int32} (hr : RA h 1 2 40 t tf) (hb : ∀ b ∈ t, b < 256) {rf : Nat → Int32} (hq : RA h 3 4 32 [] rf) {co cu tr an sg am pv : Nat} (h9 : h[9]? = some (cCrd co cu tr an sg am pv)) {frk fw ff fx ft pf : Nat → Int32} {rk : Nat → Nat} {pd : List Nat} (h16 : h[16]? = some cSea) (h17 : h[17]? = some (cArr 176 frk)) (h18 : h[18]? = some (cArr 16 fw)) (h19 : h[19]? = some (cArr 16 ff)) (h20 : h[20]? = some (cArr 16 fx)) (h21 : h[21]? = some (cArr 16 ft)) (hpd : RA h 22 23 16 pd pf) (hk : FA 176 rk frk) (hw : FA 16 (dbl (enc rk zero)) fw) (hfl : FA 16 (dbl (dbl (enc rk zero))) ff) (hbk : Bt 176 rk) (hsg : (sg = 2 ∧ t.length = 15) ∨ (sg = 3 ∧ t.length = 17)) (ham : am < 2 ^ 48) (han : an < 1000) (hpv : pv < 2) (hu : cu < 65536) (kP : ∀ g t1 f1 f, Rf (mesF t cu (givN t am sg an pv) pv) g → Rf (givR rk t cu (givN t am sg an pv) pv) f → Post (some (.int (nI 36864))) (rPut (sP (rPut (h.set 9 (cCrd co cu tr (if givN t am sg an pv = 64 then (if sg = 3 then 0 else an + 1) else an) (if givN t am sg an pv = 128 then 3 else 4) am pv)) 22 23 16 (mesF t cu (givN t am sg an pv) pv) g) t1 f1) 3 4 32 (givR rk t cu (givN t am sg an pv) pv) f)) : mMet M_Crd_giveSeal L xs (4, 111) 0 0 [.ref 9, .ref 1, .ref 3] h Post := by
  refine mMet_of rfl (Nat.le_of_ble_eq_true rfl) ?_
  have b2 := getD_lt hb 2
  have hgv := givN_v t am sg an pv
  have fin : ∀ A B : Nat, A = (if givN t am sg an pv = 64 then (if sg = 3 then 0 else an + 1) else an) → B = (if givN t am sg an pv = 128 then 3 else 4) → mGo M_Crd_giveSeal L xs (4, 111) 0 0 Post 0 0 82 [some (.ref 9), some (.ref 1), some (.ref 3), some (.long (lN (amtN t 5 6))), none, some (.long (lN (amtN t 11 4))), none, some (.int (nI (givN t am sg an pv))), none, none, none] [] (h.set 9 (cCrd co cu tr A B am pv)) := by
    intro A B hA hB
    refine t_give (RA_9 hq (by decide) (by decide)) (gself h9) (gne (y := cCrd co cu tr A B am pv) (j := 9) h16 (by decide)) (gne (y := cCrd co cu tr A B am pv) (j := 9) h17 (by decide)) (gne (y := cCrd co cu tr A B am pv) (j := 9) h18 (by decide)) (gne (y := cCrd co cu tr A B am pv) (j := 9) h19 (by decide)) (gne (y := cCrd co cu tr A B am pv) (j := 9) h20 (by decide)) (gne (y := cCrd co cu tr A B am pv) (j := 9) h21 (by decide)) (RA_9 hpd (by decide) (by decide)) hk hw hfl hbk (by omega) hpv hu (fun g t1 f1 f hg hf => ?_)
    rw [← hA, ← hB] at kP
    exact kP g t1 f1 f hg hf
  refine mj_aload_n d_Crd_giveSeal_0 rfl ?_
  refine mj_iconst d_Crd_giveSeal_1 (nI 5) (by decide) ?_
  refine mj_bipush d_Crd_giveSeal_2 (nI 6) (by decide) ?_
  refine mj_virtual (d' := (1, 21)) (mc := 0) (ms := 0) (As := [_, _]) d_Crd_giveSeal_4 cw_Row_numberAt q_235 q_236 q_237 (ci := 0) rfl hr.1 rfl rfl (mRoomB rfl) ?_
  refine s_Row_numberAt hr (by decide) ?_
  rw [numV_in (by omega) hb 6 (by decide) (by omega), show beV ((t.drop 5).take 6) = amtN t 5 6 from rfl]
  refine mj_lstore_n d_Crd_giveSeal_7 (by decide) ?_
  dsimp only [mSt1, mSt2, mKill, Nat.reduceAdd]
  refine mj_aload_n d_Crd_giveSeal_8 rfl ?_
  refine mj_bipush d_Crd_giveSeal_9 (nI 11) (by decide) ?_
  refine mj_iconst d_Crd_giveSeal_11 (nI 4) (by decide) ?_
  refine mj_virtual (d' := (1, 21)) (mc := 0) (ms := 0) (As := [_, _]) d_Crd_giveSeal_12 cw_Row_numberAt q_235 q_236 q_237 (ci := 0) rfl hr.1 rfl rfl (mRoomB rfl) ?_
  refine s_Row_numberAt hr (by decide) ?_
  rw [numV_in (by omega) hb 4 (by decide) (by omega), show beV ((t.drop 11).take 4) = amtN t 11 4 from rfl]
  refine mj_lstore d_Crd_giveSeal_15 (by decide) ?_
  dsimp only [mSt1, mSt2, mKill, Nat.reduceAdd]
  refine mj_aload_n d_Crd_giveSeal_17 rfl ?_
  refine mj_aload_n d_Crd_giveSeal_18 rfl ?_
  refine mj_iconst d_Crd_giveSeal_19 (nI 2) (by decide) ?_
  refine mj_virtual (d' := (0, 0)) (mc := 0) (ms := 0) (As := [_]) d_Crd_giveSeal_20 cw_Row_at q_228 q_229 q_230 (ci := 0) rfl hr.1 rfl rfl (mRoomB rfl) ?_
  refine s_Row_at hr ?_
  rw [atV_in (i := 2) (by omega) (by omega)]
  refine mj_lload_n d_Crd_giveSeal_23 rfl ?_
  refine mj_aload_n d_Crd_giveSeal_24 rfl ?_
  refine mj_bipush d_Crd_giveSeal_25 (nI 15) (by decide) ?_
  refine mj_iconst d_Crd_giveSeal_27 (nI 2) (by decide) ?_
  refine mj_virtual (d' := (1, 21)) (mc := 0) (ms := 0) (As := [_, _]) d_Crd_giveSeal_28 cw_Row_numberAt q_235 q_236 q_237 (ci := 0) rfl hr.1 rfl rfl (mRoomB rfl) ?_
  refine s_Row_numberAt hr (by decide) ?_
  refine mj_virtual (d' := (0, 0)) (mc := 0) (ms := 0) (As := [_, _, _]) d_Crd_giveSeal_31 cw_Crd_decide q_327 q_329 qs_Crd_decide (ci := 4) rfl h9 rfl rfl (mRoomB rfl) ?_
  refine s_Crd_decide h9 hb ham (by omega) han hpv (fun z => by rw [numV_in (by omega) hb 2 (by decide) (by omega), show beV ((t.drop 15).take 2) = amtN t 15 2 from rfl, amt2 (by omega)]) ?_
  have hgv := givN_v t am sg an pv
  refine mj_istore d_Crd_giveSeal_34 (by decide) ?_
  dsimp only [mSt1, mSt2, mKill, Nat.reduceAdd]
  refine mj_iload d_Crd_giveSeal_36 rfl ?_
  refine mj_bipush d_Crd_giveSeal_38 (nI 64) (by decide) ?_
  refine mj_icmpneN d_Crd_giveSeal_40 65 rfl (by omega) (fun c_40 => ?_) (fun c_40 => ?_)
  · refine mj_aload_n d_Crd_giveSeal_65 rfl ?_
    refine mj_iload d_Crd_giveSeal_66 rfl ?_
    refine mj_sipush d_Crd_giveSeal_68 (nI 128) (by decide) ?_
    refine mj_icmpneN d_Crd_giveSeal_71 78 rfl (by omega) (fun c_71 => ?_) (fun c_71 => ?_)
    · refine mj_iconst d_Crd_giveSeal_78 (nI 4) (by decide) ?_
      refine mj_put d_Crd_giveSeal_79 fd_Crd_47 ft_Crd_7 (by first | exact gself h9 | exact h9) (Nat.le_of_ble_eq_true rfl) rfl rfl ?_
      first
        | rw [List.set_set]
        | skip
      dsimp only [List.set]
      first
        | omega
        | exact fin (an + 1) 3 (by rw [if_pos (by omega), if_neg (by omega)]) (by rw [if_pos (by omega)])
        | exact fin (an + 1) 4 (by rw [if_pos (by omega), if_neg (by omega)]) (by rw [if_neg (by omega)])
        | exact fin 0 3 (by rw [if_pos (by omega), if_pos (by omega)]) (by rw [if_pos (by omega)])
        | exact fin 0 4 (by rw [if_pos (by omega), if_pos (by omega)]) (by rw [if_neg (by omega)])
        | exact fin an 3 (by rw [if_neg (by omega)]) (by rw [if_pos (by omega)])
        | exact fin an 4 (by rw [if_neg (by omega)]) (by rw [if_neg (by omega)])
    · refine mj_iconst d_Crd_giveSeal_74 (nI 3) (by decide) ?_
      refine mj_goto d_Crd_giveSeal_75 79 rfl ?_
      refine mj_put d_Crd_giveSeal_79 fd_Crd_47 ft_Crd_7 (by first | exact gself h9 | exact h9) (Nat.le_of_ble_eq_true rfl) rfl rfl ?_
      first
        | rw [List.set_set]
        | skip
      dsimp only [List.set]
      first
        | omega
        | exact fin (an + 1) 3 (by rw [if_pos (by omega), if_neg (by omega)]) (by rw [if_pos (by omega)])
        | exact fin (an + 1) 4 (by rw [if_pos (by omega), if_neg (by omega)]) (by rw [if_neg (by omega)])
        | exact fin 0 3 (by rw [if_pos (by omega), if_pos (by omega)]) (by rw [if_pos (by omega)])
        | exact fin 0 4 (by rw [if_pos (by omega), if_pos (by omega)]) (by rw [if_neg (by omega)])
        | exact fin an 3 (by rw [if_neg (by omega)]) (by rw [if_pos (by omega)])
        | exact fin an 4 (by rw [if_neg (by omega)]) (by rw [if_neg (by omega)])
  · refine mj_aload_n d_Crd_giveSeal_43 rfl ?_
    refine mj_aload_n d_Crd_giveSeal_44 rfl ?_
    refine mj_get d_Crd_giveSeal_45 fd_Crd_47 h9 rfl ?_
    refine mj_iconst d_Crd_giveSeal_48 (nI 2) (by decide) ?_
    refine mj_icmpneN d_Crd_giveSeal_49 61 rfl (by omega) (fun c_49 => ?_) (fun c_49 => ?_)
    · refine mj_iconst d_Crd_giveSeal_61 (nI 0) (by decide) ?_
      refine mj_put d_Crd_giveSeal_62 fd_Crd_44 ft_Crd_6 h9 (Nat.le_of_ble_eq_true rfl) rfl rfl ?_
      dsimp only [List.set]
      refine mj_aload_n d_Crd_giveSeal_65 rfl ?_
      refine mj_iload d_Crd_giveSeal_66 rfl ?_
      refine mj_sipush d_Crd_giveSeal_68 (nI 128) (by decide) ?_
      refine mj_icmpneN d_Crd_giveSeal_71 78 rfl (by omega) (fun c_71 => ?_) (fun c_71 => ?_)
      · refine mj_iconst d_Crd_giveSeal_78 (nI 4) (by decide) ?_
        refine mj_put d_Crd_giveSeal_79 fd_Crd_47 ft_Crd_7 (by first | exact gself h9 | exact h9) (Nat.le_of_ble_eq_true rfl) rfl rfl ?_
        first
          | rw [List.set_set]
          | skip
        dsimp only [List.set]
        first
          | omega
          | exact fin (an + 1) 3 (by rw [if_pos (by omega), if_neg (by omega)]) (by rw [if_pos (by omega)])
          | exact fin (an + 1) 4 (by rw [if_pos (by omega), if_neg (by omega)]) (by rw [if_neg (by omega)])
          | exact fin 0 3 (by rw [if_pos (by omega), if_pos (by omega)]) (by rw [if_pos (by omega)])
          | exact fin 0 4 (by rw [if_pos (by omega), if_pos (by omega)]) (by rw [if_neg (by omega)])
          | exact fin an 3 (by rw [if_neg (by omega)]) (by rw [if_pos (by omega)])
          | exact fin an 4 (by rw [if_neg (by omega)]) (by rw [if_neg (by omega)])
      · refine mj_iconst d_Crd_giveSeal_74 (nI 3) (by decide) ?_
        refine mj_goto d_Crd_giveSeal_75 79 rfl ?_
        refine mj_put d_Crd_giveSeal_79 fd_Crd_47 ft_Crd_7 (by first | exact gself h9 | exact h9) (Nat.le_of_ble_eq_true rfl) rfl rfl ?_
        first
          | rw [List.set_set]
          | skip
        dsimp only [List.set]
        first
          | omega
          | exact fin (an + 1) 3 (by rw [if_pos (by omega), if_neg (by omega)]) (by rw [if_pos (by omega)])
          | exact fin (an + 1) 4 (by rw [if_pos (by omega), if_neg (by omega)]) (by rw [if_neg (by omega)])
          | exact fin 0 3 (by rw [if_pos (by omega), if_pos (by omega)]) (by rw [if_pos (by omega)])
          | exact fin 0 4 (by rw [if_pos (by omega), if_pos (by omega)]) (by rw [if_neg (by omega)])
          | exact fin an 3 (by rw [if_neg (by omega)]) (by rw [if_pos (by omega)])
          | exact fin an 4 (by rw [if_neg (by omega)]) (by rw [if_neg (by omega)])
    · refine mj_aload_n d_Crd_giveSeal_52 rfl ?_
      refine mj_get d_Crd_giveSeal_53 fd_Crd_44 h9 rfl ?_
      refine mj_iconst d_Crd_giveSeal_56 (nI 1) (by decide) ?_
      refine mj_iadd d_Crd_giveSeal_57 ?_
      rw [nI_add]
      refine mj_goto d_Crd_giveSeal_58 62 rfl ?_
      refine mj_put d_Crd_giveSeal_62 fd_Crd_44 ft_Crd_6 h9 (Nat.le_of_ble_eq_true rfl) rfl rfl ?_
      dsimp only [List.set]
      refine mj_aload_n d_Crd_giveSeal_65 rfl ?_
      refine mj_iload d_Crd_giveSeal_66 rfl ?_
      refine mj_sipush d_Crd_giveSeal_68 (nI 128) (by decide) ?_
      refine mj_icmpneN d_Crd_giveSeal_71 78 rfl (by omega) (fun c_71 => ?_) (fun c_71 => ?_)
      · refine mj_iconst d_Crd_giveSeal_78 (nI 4) (by decide) ?_
        refine mj_put d_Crd_giveSeal_79 fd_Crd_47 ft_Crd_7 (by first | exact gself h9 | exact h9) (Nat.le_of_ble_eq_true rfl) rfl rfl ?_
        first
          | rw [List.set_set]
          | skip
        dsimp only [List.set]
        first
          | omega
          | exact fin (an + 1) 3 (by rw [if_pos (by omega), if_neg (by omega)]) (by rw [if_pos (by omega)])
          | exact fin (an + 1) 4 (by rw [if_pos (by omega), if_neg (by omega)]) (by rw [if_neg (by omega)])
          | exact fin 0 3 (by rw [if_pos (by omega), if_pos (by omega)]) (by rw [if_pos (by omega)])
          | exact fin 0 4 (by rw [if_pos (by omega), if_pos (by omega)]) (by rw [if_neg (by omega)])
          | exact fin an 3 (by rw [if_neg (by omega)]) (by rw [if_pos (by omega)])
          | exact fin an 4 (by rw [if_neg (by omega)]) (by rw [if_neg (by omega)])
      · refine mj_iconst d_Crd_giveSeal_74 (nI 3) (by decide) ?_
        refine mj_goto d_Crd_giveSeal_75 79 rfl ?_
        refine mj_put d_Crd_giveSeal_79 fd_Crd_47 ft_Crd_7 (by first | exact gself h9 | exact h9) (Nat.le_of_ble_eq_true rfl) rfl rfl ?_
        first
          | rw [List.set_set]
          | skip
        dsimp only [List.set]
        first
          | omega
          | exact fin (an + 1) 3 (by rw [if_pos (by omega), if_neg (by omega)]) (by rw [if_pos (by omega)])
          | exact fin (an + 1) 4 (by rw [if_pos (by omega), if_neg (by omega)]) (by rw [if_neg (by omega)])
          | exact fin 0 3 (by rw [if_pos (by omega), if_pos (by omega)]) (by rw [if_pos (by omega)])
          | exact fin 0 4 (by rw [if_pos (by omega), if_pos (by omega)]) (by rw [if_neg (by omega)])
          | exact fin an 3 (by rw [if_neg (by omega)]) (by rw [if_pos (by omega)])
          | exact fin an 4 (by rw [if_neg (by omega)]) (by rw [if_neg (by omega)])
