theorem lp_select {L : Nat} {xs : Nat → Int32} {Post : Option Value → mHeap → Prop} {h : mHeap} {t : List Nat} {tf : Nat → Int32} (hr : RA h 1 2 40 t tf) (hb : ∀ b ∈ t, b < 256) {rf : Nat → Int32} (hq : RA h 3 4 32 [] rf) {co cu tr an sg am pv : Nat} (h9 : h[9]? = some (cCrd co cu tr an sg am pv)) {nm : List Nat} {nf : Nat → Int32} (hm : RA h 10 11 7 nm nf) (hml : nm.length = 7) (hmb : ∀ b ∈ nm, b < 256) (hd7 : datN t ≤ 7) (hdl : 5 + datN t ≤ t.length) (kF : ¬ preOk t nm → Post (some (.int (nI 27266))) h) (kT : preOk t nm → ∀ f, Rf (selR nm) f → Post (some (.int (nI 36864))) (rPut (h.set 9 (cCrd co cu tr an 1 am pv)) 3 4 32 (selR nm) f)) : ∀ (m i : Nat), i + m = datN t → (∀ j, j < i → t.getD (5 + j) 0 = nm.getD j 0) → mGo M_Crd_select L xs (3, 70) 0 0 Post 0 0 18 [some (.ref 9), some (.ref 1), some (.ref 3), some (.int (nI (datN t))), some (.int (nI i)), none, none] [] h := by
  intro m
  have hcap := hr.2.2.2.1
  induction m with
  | zero =>
    intro i hi hall
    refine mj_iload d_Crd_select_18 rfl ?_
    refine mj_iload_n d_Crd_select_20 rfl ?_
    refine mj_icmpgeN d_Crd_select_21 54 rfl (by omega) (fun c_21 => ?_) (fun c_21 => ?_)
    · refine mj_aload_n d_Crd_select_54 rfl ?_
      refine mj_iconst d_Crd_select_55 (nI 1) (by decide) ?_
      refine mj_put d_Crd_select_56 fd_Crd_47 ft_Crd_7 h9 (Nat.le_of_ble_eq_true rfl) rfl rfl ?_
      dsimp only [List.set]
      have hpre : preOk t nm := ⟨by omega, fun j hj => hall j (by omega)⟩
      have hq := RA_9 (x := (cCrd co cu tr an 1 am pv)) hq (by decide) (by decide)
      have hm := RA_9 (x := (cCrd co cu tr an 1 am pv)) hm (by decide) (by decide)
      have h9 := gself (y := (cCrd co cu tr an 1 am pv)) h9
      generalize eh : h.set 9 (cCrd co cu tr an 1 am pv) = h1 at *
      refine mj_aload_n d_Crd_select_59 rfl ?_
      refine mj_bipush d_Crd_select_60 (nI 111) (by decide) ?_
      refine mj_virtual (d' := (1, 21)) (mc := 0) (ms := 0) (As := [_]) d_Crd_select_62 cw_Row_openTag q_264 q_265 q_266 (ci := 0) rfl hq.1 rfl rfl (mRoomB rfl) ?_
      refine s_Row_openTag hq (by decide) (by decide) (fun g1 hg1 => ?_)
      have e1 : ([] ++ tagB 111 ++ [0]) = [111, 0] := by decide
      rw [e1] at hg1 ⊢
      have q1 := RA_put hq hg1 (by decide)
      refine mj_istore d_Crd_select_65 (by decide) ?_
      dsimp only [mSt1, mSt2, mKill, Nat.reduceAdd]
      refine mj_aload_n d_Crd_select_67 rfl ?_
      refine mj_sipush d_Crd_select_68 (nI 132) (by decide) ?_
      refine mj_virtual (d' := (1, 21)) (mc := 0) (ms := 0) (As := [_]) d_Crd_select_71 cw_Row_openTag q_264 q_265 q_266 (ci := 0) rfl q1.1 rfl rfl (mRoomB rfl) ?_
      refine s_Row_openTag q1 (by decide) (by decide) (fun g2 hg2 => ?_)
      rw [rPut_rPut (by decide)]
      have e2 : ([111, 0] ++ tagB 132 ++ [0]) = [111, 0, 132, 0] := by decide
      rw [e2] at hg2 ⊢
      have q2 := RA_put hq hg2 (by decide)
      refine mj_istore d_Crd_select_74 (by decide) ?_
      dsimp only [mSt1, mSt2, mKill, Nat.reduceAdd]
      refine mj_aload_n d_Crd_select_76 rfl ?_
      refine mj_aload_n d_Crd_select_77 rfl ?_
      refine mj_get d_Crd_select_78 fd_Crd_14 (r34 h9 (by decide) (by decide)) rfl ?_
      refine mj_virtual (d' := (1, 21)) (mc := 0) (ms := 0) (As := [_]) d_Crd_select_81 cw_Row_addRow q_268 q_269 q_270 (ci := 0) rfl q2.1 rfl rfl (mRoomB rfl) ?_
      refine s_Row_addRow q2 (RA_other hm (by decide) (by decide) (by decide) (by decide)) (by decide) (by decide) (by decide) (by decide) (by simp [hml]) (fun g3 hg3 => ?_)
      rw [rPut_rPut (by decide)]
      have q3 := RA_put hq hg3 (by simp [hml])
      refine mj_aload_n d_Crd_select_84 rfl ?_
      refine mj_iload d_Crd_select_85 rfl ?_
      refine mj_virtual (d' := (0, 0)) (mc := 0) (ms := 0) (As := [_]) d_Crd_select_87 cw_Row_closeTag q_272 q_273 q_274 (ci := 0) rfl q3.1 rfl rfl (mRoomB rfl) ?_
      refine s_Row_closeTag q3 (g := 4) (by simp) (fun g4 hg4 => ?_)
      rw [rPut_rPut (by decide)]
      have e4 : ([111, 0, 132, 0] ++ nm).set (4 - 1) (([111, 0, 132, 0] ++ nm).length - 4) = [111, 0, 132, 7] ++ nm := by simp [hml]
      rw [e4] at hg4 ⊢
      have q4 := RA_put hq hg4 (by simp [hml])
      refine mj_aload_n d_Crd_select_90 rfl ?_
      refine mj_sipush d_Crd_select_91 (nI 165) (by decide) ?_
      refine mj_virtual (d' := (1, 21)) (mc := 0) (ms := 0) (As := [_]) d_Crd_select_94 cw_Row_openTag q_264 q_265 q_266 (ci := 0) rfl q4.1 rfl rfl (mRoomB rfl) ?_
      refine s_Row_openTag q4 (by decide) (by simp [hml]) (fun g5 hg5 => ?_)
      rw [rPut_rPut (by decide)]
      have e5 : ([111, 0, 132, 7] ++ nm ++ tagB 165 ++ [0]) = [111, 0, 132, 7] ++ nm ++ [165, 0] := by simp [tagB]
      rw [e5] at hg5 ⊢
      have q5 := RA_put hq hg5 (by simp [hml])
      have e5l : ([111, 0, 132, 7] ++ nm ++ [165, 0]).length = 13 := by simp [hml]
      rw [e5l]
      refine mj_istore d_Crd_select_97 (by decide) ?_
      dsimp only [mSt1, mSt2, mKill, Nat.reduceAdd]
      refine mj_aload_n d_Crd_select_99 rfl ?_
      refine mj_bipush d_Crd_select_100 (nI 80) (by decide) ?_
      refine mj_ldc2 d_Crd_select_102 1128354372 q_276 ?_
      refine mj_iconst d_Crd_select_105 (nI 4) (by decide) ?_
      refine mj_virtual (d' := (2, 45)) (mc := 0) (ms := 0) (As := [_, _, _]) d_Crd_select_106 cw_Row_addTagged q_277 q_278 q_279 (ci := 0) rfl q5.1 rfl rfl (mRoomB rfl) ?_
      refine s_Row_addTagged q5 (by decide) (by decide) (by simp [hml]) (fun g6 hg6 => ?_)
      rw [rPut_rPut (by decide)]
      have e6 : ([111, 0, 132, 7] ++ nm ++ [165, 0] ++ tagB 80 ++ [4] ++ beL 1128354372 4) = [111, 0, 132, 7] ++ nm ++ [165, 0, 80, 4, 67, 65, 82, 68] := by rw [show beL 1128354372 4 = [67, 65, 82, 68] by decide]; simp [tagB]
      rw [e6] at hg6 ⊢
      have q6 := RA_put hq hg6 (by simp [hml])
      refine mj_aload_n d_Crd_select_109 rfl ?_
      refine mj_ldc d_Crd_select_110 (nI 40760) q_284 ?_
      refine mj_ldc2 d_Crd_select_112 10420742 q_285 ?_
      refine mj_iconst d_Crd_select_115 (nI 3) (by decide) ?_
      refine mj_virtual (d' := (2, 45)) (mc := 0) (ms := 0) (As := [_, _, _]) d_Crd_select_116 cw_Row_addTagged q_277 q_278 q_279 (ci := 0) rfl q6.1 rfl rfl (mRoomB rfl) ?_
      refine s_Row_addTagged q6 (by decide) (by decide) (by simp [hml]) (fun g7 hg7 => ?_)
      rw [rPut_rPut (by decide)]
      have e7 : ([111, 0, 132, 7] ++ nm ++ [165, 0, 80, 4, 67, 65, 82, 68] ++ tagB 40760 ++ [3] ++ beL 10420742 3) = [111, 0, 132, 7] ++ nm ++ [165, 0, 80, 4, 67, 65, 82, 68, 159, 56, 3, 159, 2, 6] := by rw [show beL 10420742 3 = [159, 2, 6] by decide]; simp [tagB]
      rw [e7] at hg7 ⊢
      have q7 := RA_put hq hg7 (by simp [hml])
      refine mj_aload_n d_Crd_select_119 rfl ?_
      refine mj_iload d_Crd_select_120 rfl ?_
      refine mj_virtual (d' := (0, 0)) (mc := 0) (ms := 0) (As := [_]) d_Crd_select_122 cw_Row_closeTag q_272 q_273 q_274 (ci := 0) rfl q7.1 rfl rfl (mRoomB rfl) ?_
      refine s_Row_closeTag q7 (g := 13) (by simp [hml]) (fun g8 hg8 => ?_)
      rw [rPut_rPut (by decide)]
      obtain ⟨a0, a1, a2, a3, a4, a5, a6, rfl⟩ : ∃ a0 a1 a2 a3 a4 a5 a6, nm = [a0, a1, a2, a3, a4, a5, a6] := by
        match nm, hml with
        | [a0, a1, a2, a3, a4, a5, a6], _ => exact ⟨a0, a1, a2, a3, a4, a5, a6, rfl⟩
      dsimp only [List.cons_append, List.nil_append, List.length_cons, List.length_nil, List.set, Nat.reduceAdd, Nat.reduceSub] at hg8 ⊢
      have q8 := RA_put hq hg8 (Nat.le_of_ble_eq_true rfl)
      refine mj_aload_n d_Crd_select_125 rfl ?_
      refine mj_iload d_Crd_select_126 rfl ?_
      refine mj_virtual (d' := (0, 0)) (mc := 0) (ms := 0) (As := [_]) d_Crd_select_128 cw_Row_closeTag q_272 q_273 q_274 (ci := 0) rfl q8.1 rfl rfl (mRoomB rfl) ?_
      refine s_Row_closeTag q8 (g := 2) ⟨by decide, Nat.le_of_ble_eq_true rfl⟩ (fun g9 hg9 => ?_)
      rw [rPut_rPut (by decide)]
      dsimp only [List.cons_append, List.nil_append, List.length_cons, List.length_nil, List.set, Nat.reduceAdd, Nat.reduceSub] at hg9 ⊢
      refine mj_ldc d_Crd_select_131 (nI 36864) q_259 ?_
      refine mj_iret d_Crd_select_133 rfl rfl (Nat.le_refl _) (Nat.le_refl _) ?_
      subst eh
      exact kT hpre g9 hg9
    · omega
  | succ m ih =>
    intro i hi hall
    refine mj_iload d_Crd_select_18 rfl ?_
    refine mj_iload_n d_Crd_select_20 rfl ?_
    refine mj_icmpgeN d_Crd_select_21 54 rfl (by omega) (fun c_21 => ?_) (fun c_21 => ?_)
    · omega
    · refine mj_aload_n d_Crd_select_24 rfl ?_
      refine mj_iconst d_Crd_select_25 (nI 5) (by decide) ?_
      refine mj_iload d_Crd_select_26 rfl ?_
      refine mj_iadd d_Crd_select_28 ?_
      rw [nI_add]
      refine mj_virtual (d' := (0, 0)) (mc := 0) (ms := 0) (As := [_]) d_Crd_select_29 cw_Row_at q_228 q_229 q_230 (ci := 0) rfl hr.1 rfl rfl (mRoomB rfl) ?_
      refine s_Row_at hr ?_
      rw [atV_in (i := 5 + i) (by omega) (by omega)]
      refine mj_aload_n d_Crd_select_32 rfl ?_
      refine mj_get d_Crd_select_33 fd_Crd_14 h9 rfl ?_
      refine mj_iload d_Crd_select_36 rfl ?_
      refine mj_virtual (d' := (0, 0)) (mc := 0) (ms := 0) (As := [_]) d_Crd_select_38 cw_Row_at q_228 q_229 q_230 (ci := 0) rfl hm.1 rfl rfl (mRoomB rfl) ?_
      refine s_Row_at hm ?_
      rw [atV_in (i := i) (by omega) (by omega)]
      refine mj_icmpeqN d_Crd_select_41 48 rfl (by have := getD_lt hb (5 + i); have := getD_lt hmb i; omega) (fun c_41 => ?_) (fun c_41 => ?_)
      · refine mj_iinc d_Crd_select_48 rfl (by decide) (nI (i + 1)) (nI_1 i) ?_
        dsimp only [mSt1, mSt2, mKill, Nat.reduceAdd]
        refine mj_goto d_Crd_select_51 18 rfl ?_
        refine ih (i + 1) (by omega) (fun j hj => ?_)
        by_cases e : j = i
        · subst e; exact c_41
        · exact hall j (by omega)
      · refine mj_sipush d_Crd_select_44 (nI 27266) (by decide) ?_
        refine mj_iret d_Crd_select_47 rfl rfl (Nat.le_refl _) (Nat.le_refl _) ?_
        exact kF (fun z => c_41 (z.2 i (by omega)))
theorem s_Crd_select {L : Nat} {xs : Nat → Int32} {Post : Option Value → mHeap → Prop} {h : mHeap} {t : List Nat} {tf : Nat → Int32} (hr : RA h 1 2 40 t tf) (hb : ∀ b ∈ t, b < 256) {rf : Nat → Int32} (hq : RA h 3 4 32 [] rf) {co cu tr an sg am pv : Nat} (h9 : h[9]? = some (cCrd co cu tr an sg am pv)) {nm : List Nat} {nf : Nat → Int32} (hm : RA h 10 11 7 nm nf) (hml : nm.length = 7) (hmb : ∀ b ∈ nm, b < 256) (hdl : 5 + datN t = t.length) (kF : ¬ preOk t nm → Post (some (.int (nI 27266))) h) (kT : preOk t nm → ∀ f, Rf (selR nm) f → Post (some (.int (nI 36864))) (rPut (h.set 9 (cCrd co cu tr an 1 am pv)) 3 4 32 (selR nm) f)) : mMet M_Crd_select L xs (3, 70) 0 0 [.ref 9, .ref 1, .ref 3] h Post := by
  refine mMet_of rfl (Nat.le_of_ble_eq_true rfl) ?_
  have hcap := hr.2.2.2.1
  refine mj_aload_n d_Crd_select_0 rfl ?_
  refine mj_static (d' := (1, 20)) (mc := 0) (ms := 0) (As := [_]) d_Crd_select_1 cw_Crd_dataSize q_252 q_253 rfl rfl (mRoomB rfl) ?_
  refine s_Crd_dataSize hr hb ?_
  refine mj_istore_n d_Crd_select_4 (by decide) ?_
  dsimp only [mSt1, mSt2, mKill, Nat.reduceAdd]
  refine mj_iload_n d_Crd_select_5 rfl ?_
  refine mj_bipush d_Crd_select_6 (nI 7) (by decide) ?_
  refine mj_icmpleN d_Crd_select_8 15 rfl (by omega) (fun c_8 => ?_) (fun c_8 => ?_)
  · refine mj_iconst d_Crd_select_15 (nI 0) (by decide) ?_
    refine mj_istore d_Crd_select_16 (by decide) ?_
    dsimp only [mSt1, mSt2, mKill, Nat.reduceAdd]
    exact lp_select hr hb hq h9 hm hml hmb (by omega) (by omega) kF kT (datN t) 0 (by omega) (fun j hj => by omega)
  · refine mj_sipush d_Crd_select_11 (nI 27266) (by decide) ?_
    refine mj_iret d_Crd_select_14 rfl rfl (Nat.le_refl _) (Nat.le_refl _) ?_
    exact kF (fun z => by have := z.1; omega)
