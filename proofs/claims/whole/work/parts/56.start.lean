theorem law_body {L : Nat} {xs : Nat → Int32} {Post : Option Value → mHeap → Prop} (hL : L ≤ 4097) (ke : ∀ h, Post (some (.int (nI 1))) h) : mGo M_Law_law L xs (9, 224) 42 1958 Post 0 0 0 (mEn [.retAddr 0] ++ List.replicate (M_Law_law.2.2.1 - (mEn [.retAddr 0]).length) none) [] [] := by
  refine mj_new (fs := [.null, .null, .null, .null, .null]) d_Law_law_0 (ci := 5) rfl q_10 q_11 q_1 (fun _ _ => by simp [mL, mF]) mdef_Pur (by decide) (by decide) ?_
  try simp only [List.length_cons, List.length_nil, List.cons_append, List.nil_append, Nat.reduceAdd, Nat.zero_add, List.set_cons_succ, List.set_cons_zero]
  refine mj_dup d_Law_law_3 rfl ?_
  refine mj_oload_n d_Law_law_4 rfl ?_
  refine mj_iconst d_Law_law_5 (nI 0) (by decide) ?_
  refine mj_static (d' := (0, 0)) (mc := 0) (ms := 0) (As := [_, _]) d_Law_law_6 cw_Law_cell q_466 q_467 rfl rfl (mRoomB rfl) ?_
  refine s_Law_cell hL ?_
  refine mj_init (d' := (6, 149)) (mc := 23) (ms := 805) (As := [_]) d_Law_law_9 rfl rfl cw_Pur_init (Or.inl q_12) q_13 rfl rfl (mRoomB rfl) ?_
  refine s_Pur_init (fun h1 hC => ?_)
  obtain ⟨li, pd, tf, rf, lf, nf, pf, ef, fb, fs, fc, frk, fw, ff, fx, ft, hC, rfl⟩ := hC
  refine mj_astore_n d_Law_law_12 (by decide) ?_
  dsimp only [mSt1, mSt2, mKill, Nat.reduceAdd]
  refine mj_new (fs := [.null, .null, .null, .null, .null, .null, .int 0, .int 0, .int 0, .int 0, .long 0, .int 0, .int 0, .null, .int 0, .null, .null, .null, .null, .null, .null, .null, .null, .null, .null]) d_Law_law_13 (ci := 6) rfl q_469 q_470 q_9 (fun _ _ => by simp [mL, mF]) mdef_Mod (by decide) (by decide) ?_
  simp only [mkC, List.append_nil, List.length_cons, List.length_nil, List.cons_append, List.nil_append, Nat.reduceAdd, Nat.zero_add, List.set_cons_succ, List.set_cons_zero]
  refine mj_dup d_Law_law_16 rfl ?_
  refine mj_oload_n d_Law_law_17 rfl ?_
  refine mj_iconst d_Law_law_18 (nI 0) (by decide) ?_
  refine mj_static (d' := (0, 0)) (mc := 0) (ms := 0) (As := [_, _]) d_Law_law_19 cw_Law_cell q_466 q_467 rfl rfl (mRoomB rfl) ?_
  refine s_Law_cell hL ?_
  refine mj_init (d' := (3, 70)) (mc := 17) (ms := 1123) (As := [_]) d_Law_law_22 rfl rfl cw_Mod_init (Or.inl q_471) q_472 rfl rfl (mRoomB rfl) ?_
  refine s_Mod_init (fun h2 hM => ?_)
  refine mj_astore_n d_Law_law_25 (by decide) ?_
  dsimp only [mSt1, mSt2, mKill, Nat.reduceAdd]
  refine mj_iconst d_Law_law_26 (nI 1) (by decide) ?_
  refine mj_istore_n d_Law_law_27 (by decide) ?_
  dsimp only [mSt1, mSt2, mKill, Nat.reduceAdd]
  refine lw_loop hL ke 512 1 h2 (by omega) (by omega) ?_
  refine ⟨_, _, _, _, _, _, _, _, _, _, _, _, _, _, h2.drop 24, _, AI_0 (if 0 < L then xs 0 else 0), ⟨li, pd, tf, rf, lf, nf, pf, ef, fb, fs, fc, frk, fw, ff, fx, ft, hC, ?_⟩, hM⟩
  have e := MW_take hM
  exact (List.take_append_drop 24 h2).symm.trans (congrArg (· ++ h2.drop 24) e)
