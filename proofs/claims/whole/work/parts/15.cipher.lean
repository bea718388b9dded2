def all4 (g : Nat → Nat) (c : Nat) : Nat := g (4 * c) ^^^ g (4 * c + 1) ^^^ g (4 * c + 2) ^^^ g (4 * c + 3)
theorem mixA {g : Nat → Nat} {c i : Nat} (hi : i < 3) : mix1 g (4 * c + i) = g (4 * c + i) ^^^ (all4 g c ^^^ x2 (g (4 * c + i) ^^^ g (4 * c + i + 1))) := by
  unfold mix1 all4
  rw [show (4 * c + i) / 4 = c by omega, show 4 * c + (4 * c + i + 1) % 4 = 4 * c + i + 1 by omega]
theorem mixB {g : Nat → Nat} {c i : Nat} (hi : i = 3) : mix1 g (4 * c + i) = g (4 * c + i) ^^^ (all4 g c ^^^ x2 (g (4 * c + i) ^^^ g (4 * c))) := by
  unfold mix1 all4
  rw [show (4 * c + i) / 4 = c by omega, show 4 * c + (4 * c + i + 1) % 4 = 4 * c by omega]
theorem li_mix {L : Nat} {xs : Nat → Int32} {Post : Option Value → mHeap → Prop} {h : mHeap} {fx : Nat → Int32} {g : Nat → Nat} (h16 : h[16]? = some cSea) (h20 : h[20]? = some (cArr 16 fx)) (hx : FA 16 g fx) (hb : Bt 16 g) {c : Nat} (hc : c < 4) (ko : ∀ (f : Nat → Int32) (w2 w3 w4 w5 : Option Value), FA 16 (pu (4 * (c + 1)) (mix1 g) g) f → mGo M_Sea_mixColumns L xs (1, 20) 0 0 Post 0 0 2 [some (.ref 16), some (.int (nI (4 * (c + 1)))), w2, w3, w4, w5] [] (h.set 20 (cArr 16 f))) : ∀ (m i : Nat) (f : Nat → Int32) (w : Option Value), i + m = 4 → FA 16 (pu (4 * c + i) (mix1 g) g) f → mGo M_Sea_mixColumns L xs (1, 20) 0 0 Post 0 0 52 [some (.ref 16), some (.int (nI (4 * c))), some (.int (nI (g (4 * c)))), some (.int (nI (all4 g c))), some (.int (nI i)), w] [] (h.set 20 (cArr 16 f)) := by
  intro m
  induction m with
  | zero =>
    intro i f w hi hf
    refine mj_iload d_Sea_mixColumns_52 rfl ?_
    refine mj_iconst d_Sea_mixColumns_54 (nI 4) (by decide) ?_
    refine mj_icmpgeN d_Sea_mixColumns_55 116 rfl (by omega) (fun c_55 => ?_) (fun c_55 => ?_)
    · refine mj_iinc d_Sea_mixColumns_116 rfl (by decide) (nI (4 * (c + 1))) (by rw [show 4 * (c + 1) = 4 * c + 4 by omega, ← nI_add]; rfl) ?_
      dsimp only [mSt1, mSt2, mKill, Nat.reduceAdd]
      refine mj_goto d_Sea_mixColumns_119 2 rfl ?_
      exact ko f _ _ _ _ (by rw [show 4 * (c + 1) = 4 * c + i by omega]; exact hf)
    · omega
  | succ m ih =>
    intro i f w hi hf
    refine mj_iload d_Sea_mixColumns_52 rfl ?_
    refine mj_iconst d_Sea_mixColumns_54 (nI 4) (by decide) ?_
    refine mj_icmpgeN d_Sea_mixColumns_55 116 rfl (by omega) (fun c_55 => ?_) (fun c_55 => ?_)
    · omega
    · refine mj_iload d_Sea_mixColumns_58 rfl ?_
      refine mj_iconst d_Sea_mixColumns_60 (nI 3) (by decide) ?_
      refine mj_icmpgeN d_Sea_mixColumns_61 78 rfl (by omega) (fun c_61 => ?_) (fun c_61 => ?_)
      · refine mj_iload_n d_Sea_mixColumns_78 rfl ?_
        refine mj_istore d_Sea_mixColumns_79 (by decide) ?_
        dsimp only [mSt1, mSt2, mKill, Nat.reduceAdd]
        refine mj_aload_n d_Sea_mixColumns_81 rfl ?_
        refine mj_get d_Sea_mixColumns_82 fd_Sea_21 (gne h16 (by decide)) rfl ?_
        refine mj_iload_n d_Sea_mixColumns_85 rfl ?_
        refine mj_iload d_Sea_mixColumns_86 rfl ?_
        refine mj_iadd d_Sea_mixColumns_88 ?_
        rw [nI_add]
        refine mj_dup2 d_Sea_mixColumns_89 rfl rfl ?_
        refine mj_ialdN d_Sea_mixColumns_90 (gself h20) (by omega) ?_
        rw [hf _ (by omega), pu_hi (by omega)]
        refine mj_iload_n d_Sea_mixColumns_91 rfl ?_
        refine mj_aload_n d_Sea_mixColumns_92 rfl ?_
        refine mj_get d_Sea_mixColumns_93 fd_Sea_21 (gne h16 (by decide)) rfl ?_
        refine mj_iload_n d_Sea_mixColumns_96 rfl ?_
        refine mj_iload d_Sea_mixColumns_97 rfl ?_
        refine mj_iadd d_Sea_mixColumns_99 ?_
        rw [nI_add]
        refine mj_ialdN d_Sea_mixColumns_100 (gself h20) (by omega) ?_
        rw [hf _ (by omega), pu_hi (by omega)]
        refine mj_iload d_Sea_mixColumns_101 rfl ?_
        refine mj_ixor d_Sea_mixColumns_103 ?_
        rw [nI_xor]
        refine mj_static (d' := (0, 0)) (mc := 0) (ms := 0) (As := [_]) d_Sea_mixColumns_104 cw_Sea_twice q_84 q_85 rfl rfl (mRoomB rfl) ?_
        refine s_Sea_twice (xor_lt (hb _ (by omega)) (hb _ (by omega))) ?_
        refine mj_ixor d_Sea_mixColumns_107 ?_
        rw [nI_xor]
        refine mj_ixor d_Sea_mixColumns_108 ?_
        rw [nI_xor]
        refine mj_iastN d_Sea_mixColumns_109 (gself h20) (by omega) ?_
        rw [List.set_set]
        refine mj_iinc d_Sea_mixColumns_110 rfl (by decide) (nI (i + 1)) (nI_1 i) ?_
        dsimp only [mSt1, mSt2, mKill, Nat.reduceAdd]
        refine mj_goto d_Sea_mixColumns_113 52 rfl ?_
        refine ih (i + 1) _ _ (by omega) ?_
        first
          | (rw [← mixA (by omega)]; exact pu_s hf)
          | (rw [← mixB (by omega)]; exact pu_s hf)
      · refine mj_aload_n d_Sea_mixColumns_64 rfl ?_
        refine mj_get d_Sea_mixColumns_65 fd_Sea_21 (gne h16 (by decide)) rfl ?_
        refine mj_iload_n d_Sea_mixColumns_68 rfl ?_
        refine mj_iload d_Sea_mixColumns_69 rfl ?_
        refine mj_iadd d_Sea_mixColumns_71 ?_
        rw [nI_add]
        refine mj_iconst d_Sea_mixColumns_72 (nI 1) (by decide) ?_
        refine mj_iadd d_Sea_mixColumns_73 ?_
        rw [nI_add]
        refine mj_ialdN d_Sea_mixColumns_74 (gself h20) (by omega) ?_
        rw [hf _ (by omega), pu_hi (by omega)]
        refine mj_goto d_Sea_mixColumns_75 79 rfl ?_
        refine mj_istore d_Sea_mixColumns_79 (by decide) ?_
        dsimp only [mSt1, mSt2, mKill, Nat.reduceAdd]
        refine mj_aload_n d_Sea_mixColumns_81 rfl ?_
        refine mj_get d_Sea_mixColumns_82 fd_Sea_21 (gne h16 (by decide)) rfl ?_
        refine mj_iload_n d_Sea_mixColumns_85 rfl ?_
        refine mj_iload d_Sea_mixColumns_86 rfl ?_
        refine mj_iadd d_Sea_mixColumns_88 ?_
        rw [nI_add]
        refine mj_dup2 d_Sea_mixColumns_89 rfl rfl ?_
        refine mj_ialdN d_Sea_mixColumns_90 (gself h20) (by omega) ?_
        rw [hf _ (by omega), pu_hi (by omega)]
        refine mj_iload_n d_Sea_mixColumns_91 rfl ?_
        refine mj_aload_n d_Sea_mixColumns_92 rfl ?_
        refine mj_get d_Sea_mixColumns_93 fd_Sea_21 (gne h16 (by decide)) rfl ?_
        refine mj_iload_n d_Sea_mixColumns_96 rfl ?_
        refine mj_iload d_Sea_mixColumns_97 rfl ?_
        refine mj_iadd d_Sea_mixColumns_99 ?_
        rw [nI_add]
        refine mj_ialdN d_Sea_mixColumns_100 (gself h20) (by omega) ?_
        rw [hf _ (by omega), pu_hi (by omega)]
        refine mj_iload d_Sea_mixColumns_101 rfl ?_
        refine mj_ixor d_Sea_mixColumns_103 ?_
        rw [nI_xor]
        refine mj_static (d' := (0, 0)) (mc := 0) (ms := 0) (As := [_]) d_Sea_mixColumns_104 cw_Sea_twice q_84 q_85 rfl rfl (mRoomB rfl) ?_
        refine s_Sea_twice (xor_lt (hb _ (by omega)) (hb _ (by omega))) ?_
        refine mj_ixor d_Sea_mixColumns_107 ?_
        rw [nI_xor]
        refine mj_ixor d_Sea_mixColumns_108 ?_
        rw [nI_xor]
        refine mj_iastN d_Sea_mixColumns_109 (gself h20) (by omega) ?_
        rw [List.set_set]
        refine mj_iinc d_Sea_mixColumns_110 rfl (by decide) (nI (i + 1)) (nI_1 i) ?_
        dsimp only [mSt1, mSt2, mKill, Nat.reduceAdd]
        refine mj_goto d_Sea_mixColumns_113 52 rfl ?_
        refine ih (i + 1) _ _ (by omega) ?_
        first
          | (rw [← mixA (by omega)]; exact pu_s hf)
          | (rw [← mixB (by omega)]; exact pu_s hf)
theorem lo_mix {L : Nat} {xs : Nat → Int32} {Post : Option Value → mHeap → Prop} {h : mHeap} {fx : Nat → Int32} {g : Nat → Nat} (h16 : h[16]? = some cSea) (h20 : h[20]? = some (cArr 16 fx)) (hx : FA 16 g fx) (hb : Bt 16 g) (kP : ∀ f, FA 16 (mix1 g) f → Post none (h.set 20 (cArr 16 f))) : ∀ (m c : Nat) (f : Nat → Int32) (w2 w3 w4 w5 : Option Value), c + m = 4 → FA 16 (pu (4 * c) (mix1 g) g) f → mGo M_Sea_mixColumns L xs (1, 20) 0 0 Post 0 0 2 [some (.ref 16), some (.int (nI (4 * c))), w2, w3, w4, w5] [] (h.set 20 (cArr 16 f)) := by
  intro m
  induction m with
  | zero =>
    intro c f w2 w3 w4 w5 hc hf
    refine mj_iload_n d_Sea_mixColumns_2 rfl ?_
    refine mj_bipush d_Sea_mixColumns_3 (nI 16) (by decide) ?_
    refine mj_icmpgeN d_Sea_mixColumns_5 122 rfl (by omega) (fun c_5 => ?_) (fun c_5 => ?_)
    · refine mj_vret d_Sea_mixColumns_122 rfl (Nat.le_refl _) (Nat.le_refl _) ?_
      exact kP f (pu_e hf (by omega))
    · omega
  | succ m ih =>
    intro c f w2 w3 w4 w5 hc hf
    refine mj_iload_n d_Sea_mixColumns_2 rfl ?_
    refine mj_bipush d_Sea_mixColumns_3 (nI 16) (by decide) ?_
    refine mj_icmpgeN d_Sea_mixColumns_5 122 rfl (by omega) (fun c_5 => ?_) (fun c_5 => ?_)
    · omega
    · refine mj_aload_n d_Sea_mixColumns_8 rfl ?_
      refine mj_get d_Sea_mixColumns_9 fd_Sea_21 (gne h16 (by decide)) rfl ?_
      refine mj_iload_n d_Sea_mixColumns_12 rfl ?_
      refine mj_ialdN d_Sea_mixColumns_13 (gself h20) (by omega) ?_
      rw [hf _ (by omega), pu_hi (by omega)]
      refine mj_istore_n d_Sea_mixColumns_14 (by decide) ?_
      dsimp only [mSt1, mSt2, mKill, Nat.reduceAdd]
      refine mj_aload_n d_Sea_mixColumns_15 rfl ?_
      refine mj_get d_Sea_mixColumns_16 fd_Sea_21 (gne h16 (by decide)) rfl ?_
      refine mj_iload_n d_Sea_mixColumns_19 rfl ?_
      refine mj_ialdN d_Sea_mixColumns_20 (gself h20) (by omega) ?_
      rw [hf _ (by omega), pu_hi (by omega)]
      refine mj_aload_n d_Sea_mixColumns_21 rfl ?_
      refine mj_get d_Sea_mixColumns_22 fd_Sea_21 (gne h16 (by decide)) rfl ?_
      refine mj_iload_n d_Sea_mixColumns_25 rfl ?_
      refine mj_iconst d_Sea_mixColumns_26 (nI 1) (by decide) ?_
      refine mj_iadd d_Sea_mixColumns_27 ?_
      rw [nI_add]
      refine mj_ialdN d_Sea_mixColumns_28 (gself h20) (by omega) ?_
      rw [hf _ (by omega), pu_hi (by omega)]
      refine mj_ixor d_Sea_mixColumns_29 ?_
      rw [nI_xor]
      refine mj_aload_n d_Sea_mixColumns_30 rfl ?_
      refine mj_get d_Sea_mixColumns_31 fd_Sea_21 (gne h16 (by decide)) rfl ?_
      refine mj_iload_n d_Sea_mixColumns_34 rfl ?_
      refine mj_iconst d_Sea_mixColumns_35 (nI 2) (by decide) ?_
      refine mj_iadd d_Sea_mixColumns_36 ?_
      rw [nI_add]
      refine mj_ialdN d_Sea_mixColumns_37 (gself h20) (by omega) ?_
      rw [hf _ (by omega), pu_hi (by omega)]
      refine mj_ixor d_Sea_mixColumns_38 ?_
      rw [nI_xor]
      refine mj_aload_n d_Sea_mixColumns_39 rfl ?_
      refine mj_get d_Sea_mixColumns_40 fd_Sea_21 (gne h16 (by decide)) rfl ?_
      refine mj_iload_n d_Sea_mixColumns_43 rfl ?_
      refine mj_iconst d_Sea_mixColumns_44 (nI 3) (by decide) ?_
      refine mj_iadd d_Sea_mixColumns_45 ?_
      rw [nI_add]
      refine mj_ialdN d_Sea_mixColumns_46 (gself h20) (by omega) ?_
      rw [hf _ (by omega), pu_hi (by omega)]
      refine mj_ixor d_Sea_mixColumns_47 ?_
      rw [nI_xor]
      refine mj_istore_n d_Sea_mixColumns_48 (by decide) ?_
      dsimp only [mSt1, mSt2, mKill, Nat.reduceAdd]
      refine mj_iconst d_Sea_mixColumns_49 (nI 0) (by decide) ?_
      refine mj_istore d_Sea_mixColumns_50 (by decide) ?_
      dsimp only [mSt1, mSt2, mKill, Nat.reduceAdd]
      exact li_mix h16 h20 hx hb (by omega) (fun f w2 w3 w4 w5 hf => ih (c + 1) f w2 w3 w4 w5 (by omega) hf) 4 0 f _ (by omega) hf
theorem s_Sea_mixColumns {L : Nat} {xs : Nat → Int32} {Post : Option Value → mHeap → Prop} {h : mHeap} {fx : Nat → Int32} {g : Nat → Nat} (h16 : h[16]? = some cSea) (h20 : h[20]? = some (cArr 16 fx)) (hx : FA 16 g fx) (hb : Bt 16 g) (kP : ∀ f, FA 16 (mix1 g) f → Post none (h.set 20 (cArr 16 f))) : mMet M_Sea_mixColumns L xs (1, 20) 0 0 [.ref 16] h Post := by
  refine mMet_of rfl (Nat.le_of_ble_eq_true rfl) ?_
  refine mj_iconst d_Sea_mixColumns_0 (nI 0) (by decide) ?_
  refine mj_istore_n d_Sea_mixColumns_1 (by decide) ?_
  dsimp only [mSt1, mSt2, mKill, Nat.reduceAdd]
  have e := lo_mix h16 h20 hx hb kP (L := L) (xs := xs) 4 0 fx none none none none (by omega) (pu_0 hx)
  rw [set_same h20] at e
  exact e
theorem lp_encipher {L : Nat} {xs : Nat → Int32} {Post : Option Value → mHeap → Prop} {h : mHeap} {frk fx ft : Nat → Int32} {rk g : Nat → Nat} (h16 : h[16]? = some cSea) (h17 : h[17]? = some (cArr 176 frk)) (h20 : h[20]? = some (cArr 16 fx)) (h21 : h[21]? = some (cArr 16 ft)) (hk : FA 176 rk frk) (hx : FA 16 g fx) (hbk : Bt 176 rk) (hb : Bt 16 g) (kP : ∀ t f, FA 16 (enc rk g) f → Post none (sP h t f)) : ∀ (m q : Nat) (t f : Nat → Int32), q + m = 10 → FA 16 (encS rk g q) f → mGo M_Sea_encipher L xs (2, 62) 0 0 Post 0 0 7 [some (.ref 16), some (.int (nI (q + 1)))] [] (sP h t f) := by
  intro m
  induction m with
  | zero =>
    intro q t f hq hf
    refine mj_iload_n d_Sea_encipher_7 rfl ?_
    refine mj_bipush d_Sea_encipher_8 (nI 10) (by decide) ?_
    refine mj_icmpgtN d_Sea_encipher_10 38 rfl (by omega) (fun c_10 => ?_) (fun c_10 => ?_)
    · refine mj_vret d_Sea_encipher_38 rfl (Nat.le_refl _) (Nat.le_refl _) ?_
      rw [show q = 10 by omega] at hf
      exact kP t f hf
    · omega
  | succ m ih =>
    intro q t f hq hf
    refine mj_iload_n d_Sea_encipher_7 rfl ?_
    refine mj_bipush d_Sea_encipher_8 (nI 10) (by decide) ?_
    refine mj_icmpgtN d_Sea_encipher_10 38 rfl (by omega) (fun c_10 => ?_) (fun c_10 => ?_)
    · omega
    · refine mj_aload_n d_Sea_encipher_13 rfl ?_
      refine mj_virtual (d' := (1, 40)) (mc := 0) (ms := 0) (As := []) d_Sea_encipher_14 cw_Sea_substituteAndTurn q_98 q_100 qs_Sea_substituteAndTurn (ci := 3) rfl (sP_get h16 (by decide) (by decide)) rfl rfl (mRoomB rfl) ?_
      refine s_Sea_substituteAndTurn (sP_get h16 (by decide) (by decide)) (sP_20 h20) (sP_21 h21) hf (encS_lt hbk hb q (by omega)) (fun t1 f1 hf1 => ?_)
      rw [sP_sP]
      refine mj_iload_n d_Sea_encipher_17 rfl ?_
      refine mj_bipush d_Sea_encipher_18 (nI 10) (by decide) ?_
      refine mj_icmpgeN d_Sea_encipher_20 27 rfl (by omega) (fun c_20 => ?_) (fun c_20 => ?_)
      · refine mj_aload_n d_Sea_encipher_27 rfl ?_
        refine mj_iload_n d_Sea_encipher_28 rfl ?_
        refine mj_virtual (d' := (0, 0)) (mc := 0) (ms := 0) (As := [_]) d_Sea_encipher_29 cw_Sea_combineRoundKey q_94 q_96 qs_Sea_combineRoundKey (ci := 3) rfl (sP_get h16 (by decide) (by decide)) rfl rfl (mRoomB rfl) ?_
        refine s_Sea_combineRoundKey (sP_get h16 (by decide) (by decide)) (sP_get h17 (by decide) (by decide)) (sP_20 h20) hk hf1 (by omega) (fun f3 hf3 => ?_)
        rw [sP_s20]
        refine mj_iinc d_Sea_encipher_32 rfl (by decide) (nI (q + 1 + 1)) (nI_1 (q + 1)) ?_
        dsimp only [mSt1, mSt2, mKill, Nat.reduceAdd]
        refine mj_goto d_Sea_encipher_35 7 rfl ?_
        refine ih (q + 1) _ _ (by omega) ?_
        first
          | (rw [encS, if_pos (by omega)]; exact hf3)
          | (rw [encS, if_neg (by omega)]; exact hf3)
      · refine mj_aload_n d_Sea_encipher_23 rfl ?_
        refine mj_virtual (d' := (1, 20)) (mc := 0) (ms := 0) (As := []) d_Sea_encipher_24 cw_Sea_mixColumns q_105 q_107 qs_Sea_mixColumns (ci := 3) rfl (sP_get h16 (by decide) (by decide)) rfl rfl (mRoomB rfl) ?_
        refine s_Sea_mixColumns (sP_get h16 (by decide) (by decide)) (sP_20 h20) hf1 (sub1_lt (encS_lt hbk hb q (by omega))) (fun f1 hf1 => ?_)
        rw [sP_s20]
        refine mj_aload_n d_Sea_encipher_27 rfl ?_
        refine mj_iload_n d_Sea_encipher_28 rfl ?_
        refine mj_virtual (d' := (0, 0)) (mc := 0) (ms := 0) (As := [_]) d_Sea_encipher_29 cw_Sea_combineRoundKey q_94 q_96 qs_Sea_combineRoundKey (ci := 3) rfl (sP_get h16 (by decide) (by decide)) rfl rfl (mRoomB rfl) ?_
        refine s_Sea_combineRoundKey (sP_get h16 (by decide) (by decide)) (sP_get h17 (by decide) (by decide)) (sP_20 h20) hk hf1 (by omega) (fun f3 hf3 => ?_)
        rw [sP_s20]
        refine mj_iinc d_Sea_encipher_32 rfl (by decide) (nI (q + 1 + 1)) (nI_1 (q + 1)) ?_
        dsimp only [mSt1, mSt2, mKill, Nat.reduceAdd]
        refine mj_goto d_Sea_encipher_35 7 rfl ?_
        refine ih (q + 1) _ _ (by omega) ?_
        first
          | (rw [encS, if_pos (by omega)]; exact hf3)
          | (rw [encS, if_neg (by omega)]; exact hf3)
theorem s_Sea_encipher {L : Nat} {xs : Nat → Int32} {Post : Option Value → mHeap → Prop} {h : mHeap} {frk fx ft : Nat → Int32} {rk g : Nat → Nat} (h16 : h[16]? = some cSea) (h17 : h[17]? = some (cArr 176 frk)) (h20 : h[20]? = some (cArr 16 fx)) (h21 : h[21]? = some (cArr 16 ft)) (hk : FA 176 rk frk) (hx : FA 16 g fx) (hbk : Bt 176 rk) (hb : Bt 16 g) (kP : ∀ t f, FA 16 (enc rk g) f → Post none (sP h t f)) : mMet M_Sea_encipher L xs (2, 62) 0 0 [.ref 16] h Post := by
  refine mMet_of rfl (Nat.le_of_ble_eq_true rfl) ?_
  refine mj_aload_n d_Sea_encipher_0 rfl ?_
  refine mj_iconst d_Sea_encipher_1 (nI 0) (by decide) ?_
  refine mj_virtual (d' := (0, 0)) (mc := 0) (ms := 0) (As := [_]) d_Sea_encipher_2 cw_Sea_combineRoundKey q_94 q_96 qs_Sea_combineRoundKey (ci := 3) rfl h16 rfl rfl (mRoomB rfl) ?_
  refine s_Sea_combineRoundKey h16 h17 h20 hk hx (by omega) (fun f hf => ?_)
  rw [sP_0 h21]
  refine mj_iconst d_Sea_encipher_5 (nI 1) (by decide) ?_
  refine mj_istore_n d_Sea_encipher_6 (by decide) ?_
  dsimp only [mSt1, mSt2, mKill, Nat.reduceAdd]
  exact lp_encipher h16 h17 h20 h21 hk hx hbk hb kP 10 0 ft f (by omega) hf
def rkP (g : Nat → Nat) (a : Nat) : Nat → Nat := fun n => if n = 16 * a then rkF g (n - 16) ^^^ sbN (rkF g (n - 3)) else rkF g n
theorem rkP_lo {g : Nat → Nat} {a n : Nat} (h : n < 16 * a) : rkP g a n = rkF g n := by rw [rkP, if_neg (by omega)]
theorem rkP_at {g : Nat → Nat} {a i : Nat} (ha : 1 ≤ a) (hi : i < 4) : rkP g a (16 * a + i) = rkF g (16 * a + i - 16) ^^^ sbN (rkF g (16 * a - 4 + (i + 1) % 4)) := by
  unfold rkP
  split
  · next h => rw [show 16 * a - 4 + (i + 1) % 4 = 16 * a + i - 3 by omega]
  · next h =>
    rw [rkF, dif_neg (by omega), if_neg (by omega)]
    by_cases h3 : i = 3
    · rw [if_neg (by omega), if_pos (by omega), show 16 * a - 4 + (i + 1) % 4 = 16 * a + i - 7 by omega]
    · rw [if_pos (by omega), show 16 * a - 4 + (i + 1) % 4 = 16 * a + i - 3 by omega]
theorem rkF_0 {g : Nat → Nat} {a : Nat} (ha : 1 ≤ a) : rkP g a (16 * a) ^^^ rcon a = rkF g (16 * a) := by
  conv => rhs; rw [rkF]
  rw [dif_neg (by omega), if_pos (by omega), rkP, if_pos rfl, show 16 * a / 16 = a by omega]
theorem rkF_4 {g : Nat → Nat} {a i : Nat} (ha : 1 ≤ a) (hi : 4 ≤ i) (hi2 : i < 16) : rkF g (16 * a + i) = rkF g (16 * a + i - 16) ^^^ rkF g (16 * a + i - 4) := by
  conv => lhs; rw [rkF]
  rw [dif_neg (by omega), if_neg (by omega), if_neg (by omega), if_neg (by omega)]
theorem rkP_e {g : Nat → Nat} {a : Nat} {f : Nat → Int32} (ha : 1 ≤ a) (h : FA (16 * a + 4) (rkP g a) f) : FA (16 * a + 4) (rkF g) (upd f (16 * a) (nI (rkF g (16 * a)))) := by
  intro j hj
  by_cases e : j = 16 * a
  · subst e; exact pk_us
  · rw [pk_un e, h j hj, rkP, if_neg e]
theorem l2_grow {L : Nat} {xs : Nat → Int32} {Post : Option Value → mHeap → Prop} {h : mHeap} {f0 : Nat → Int32} {g : Nat → Nat} (h16 : h[16]? = some cSea) (h17 : h[17]? = some (cArr 176 f0)) (hb : Bt 16 g) {a : Nat} (ha : 1 ≤ a ∧ a ≤ 10) (ko : ∀ (f : Nat → Int32) (w3 w4 : Option Value), FA (16 * (a + 1)) (rkF g) f → mGo M_Sea_growRoundKeys L xs (1, 20) 0 0 Post 0 0 5 [some (.ref 16), some (.int (nI (rcon (a + 1)))), some (.int (nI (16 * (a + 1)))), w3, w4] [] (h.set 17 (cArr 176 f))) {w4 : Option Value} : ∀ (m i : Nat) (f : Nat → Int32), i + m = 16 → 4 ≤ i → FA (16 * a + i) (rkF g) f → mGo M_Sea_growRoundKeys L xs (1, 20) 0 0 Post 0 0 90 [some (.ref 16), some (.int (nI (rcon (a + 1)))), some (.int (nI (16 * a))), some (.int (nI i)), w4] [] (h.set 17 (cArr 176 f)) := by
  intro m
  induction m with
  | zero =>
    intro i f hi h4 hf
    refine mj_iload_n d_Sea_growRoundKeys_90 rfl ?_
    refine mj_bipush d_Sea_growRoundKeys_91 (nI 16) (by decide) ?_
    refine mj_icmpgeN d_Sea_growRoundKeys_93 132 rfl (by omega) (fun c_93 => ?_) (fun c_93 => ?_)
    · refine mj_iinc d_Sea_growRoundKeys_132 rfl (by decide) (nI (16 * (a + 1))) (by rw [show 16 * (a + 1) = 16 * a + 16 by omega, ← nI_add]; rfl) ?_
      dsimp only [mSt1, mSt2, mKill, Nat.reduceAdd]
      refine mj_goto d_Sea_growRoundKeys_135 5 rfl ?_
      exact ko f _ _ (by rw [show 16 * (a + 1) = 16 * a + i by omega]; exact hf)
    · omega
  | succ m ih =>
    intro i f hi h4 hf
    refine mj_iload_n d_Sea_growRoundKeys_90 rfl ?_
    refine mj_bipush d_Sea_growRoundKeys_91 (nI 16) (by decide) ?_
    refine mj_icmpgeN d_Sea_growRoundKeys_93 132 rfl (by omega) (fun c_93 => ?_) (fun c_93 => ?_)
    · omega
    · refine mj_aload_n d_Sea_growRoundKeys_96 rfl ?_
      refine mj_get d_Sea_growRoundKeys_97 fd_Sea_11 (gne h16 (by decide)) rfl ?_
      refine mj_iload_n d_Sea_growRoundKeys_100 rfl ?_
      refine mj_iload_n d_Sea_growRoundKeys_101 rfl ?_
      refine mj_iadd d_Sea_growRoundKeys_102 ?_
      rw [nI_add]
      refine mj_aload_n d_Sea_growRoundKeys_103 rfl ?_
      refine mj_get d_Sea_growRoundKeys_104 fd_Sea_11 (gne h16 (by decide)) rfl ?_
      refine mj_iload_n d_Sea_growRoundKeys_107 rfl ?_
      refine mj_iload_n d_Sea_growRoundKeys_108 rfl ?_
      refine mj_iadd d_Sea_growRoundKeys_109 ?_
      rw [nI_add]
      refine mj_bipush d_Sea_growRoundKeys_110 (nI 16) (by decide) ?_
      refine mj_isub d_Sea_growRoundKeys_112 ?_
      rw [pk_sub (by omega)]
      refine mj_ialdN d_Sea_growRoundKeys_113 (gself h17) (by omega) ?_
      rw [hf _ (by omega)]
      refine mj_aload_n d_Sea_growRoundKeys_114 rfl ?_
      refine mj_get d_Sea_growRoundKeys_115 fd_Sea_11 (gne h16 (by decide)) rfl ?_
      refine mj_iload_n d_Sea_growRoundKeys_118 rfl ?_
      refine mj_iload_n d_Sea_growRoundKeys_119 rfl ?_
      refine mj_iadd d_Sea_growRoundKeys_120 ?_
      rw [nI_add]
      refine mj_iconst d_Sea_growRoundKeys_121 (nI 4) (by decide) ?_
      refine mj_isub d_Sea_growRoundKeys_122 ?_
      rw [pk_sub (by omega)]
      refine mj_ialdN d_Sea_growRoundKeys_123 (gself h17) (by omega) ?_
      rw [hf _ (by omega)]
      refine mj_ixor d_Sea_growRoundKeys_124 ?_
      rw [nI_xor, ← rkF_4 (by omega) (by omega) (by omega)]
      refine mj_iastN d_Sea_growRoundKeys_125 (gself h17) (by omega) ?_
      rw [List.set_set]
      refine mj_iinc d_Sea_growRoundKeys_126 rfl (by decide) (nI (i + 1)) (nI_1 i) ?_
      dsimp only [mSt1, mSt2, mKill, Nat.reduceAdd]
      refine mj_goto d_Sea_growRoundKeys_129 90 rfl ?_
      exact ih (i + 1) _ (by omega) (by omega) (FA_s hf)
theorem l1_grow {L : Nat} {xs : Nat → Int32} {Post : Option Value → mHeap → Prop} {h : mHeap} {f0 : Nat → Int32} {g : Nat → Nat} (h16 : h[16]? = some cSea) (h17 : h[17]? = some (cArr 176 f0)) (hb : Bt 16 g) {a : Nat} (ha : 1 ≤ a ∧ a ≤ 10) (ko : ∀ (f : Nat → Int32) (w3 w4 : Option Value), FA (16 * (a + 1)) (rkF g) f → mGo M_Sea_growRoundKeys L xs (1, 20) 0 0 Post 0 0 5 [some (.ref 16), some (.int (nI (rcon (a + 1)))), some (.int (nI (16 * (a + 1)))), w3, w4] [] (h.set 17 (cArr 176 f))) : ∀ (m i : Nat) (f : Nat → Int32) (w4 : Option Value), i + m = 4 → FA (16 * a + i) (rkP g a) f → mGo M_Sea_growRoundKeys L xs (1, 20) 0 0 Post 0 0 16 [some (.ref 16), some (.int (nI (rcon a))), some (.int (nI (16 * a))), some (.int (nI i)), w4] [] (h.set 17 (cArr 176 f)) := by
  intro m
  induction m with
  | zero =>
    intro i f w4 hi hf
    refine mj_iload_n d_Sea_growRoundKeys_16 rfl ?_
    refine mj_iconst d_Sea_growRoundKeys_17 (nI 4) (by decide) ?_
    refine mj_icmpgeN d_Sea_growRoundKeys_18 73 rfl (by omega) (fun c_18 => ?_) (fun c_18 => ?_)
    · refine mj_aload_n d_Sea_growRoundKeys_73 rfl ?_
      refine mj_get d_Sea_growRoundKeys_74 fd_Sea_11 (gne h16 (by decide)) rfl ?_
      refine mj_iload_n d_Sea_growRoundKeys_77 rfl ?_
      refine mj_dup2 d_Sea_growRoundKeys_78 rfl rfl ?_
      refine mj_ialdN d_Sea_growRoundKeys_79 (gself h17) (by omega) ?_
      rw [hf _ (by omega)]
      refine mj_iload_n d_Sea_growRoundKeys_80 rfl ?_
      refine mj_ixor d_Sea_growRoundKeys_81 ?_
      rw [nI_xor, rkF_0 (by omega)]
      refine mj_iastN d_Sea_growRoundKeys_82 (gself h17) (by omega) ?_
      rw [List.set_set]
      refine mj_iload_n d_Sea_growRoundKeys_83 rfl ?_
      refine mj_static (d' := (0, 0)) (mc := 0) (ms := 0) (As := [_]) d_Sea_growRoundKeys_84 cw_Sea_twice q_84 q_85 rfl rfl (mRoomB rfl) ?_
      refine s_Sea_twice (rcon_lt a (by omega)) ?_
      rw [show x2 (rcon a) = rcon (a + 1) by obtain ⟨b, rfl⟩ : ∃ b, a = b + 1 := ⟨a - 1, by omega⟩; rfl]
      refine mj_istore_n d_Sea_growRoundKeys_87 (by decide) ?_
      dsimp only [mSt1, mSt2, mKill, Nat.reduceAdd]
      refine mj_iconst d_Sea_growRoundKeys_88 (nI 4) (by decide) ?_
      refine mj_istore_n d_Sea_growRoundKeys_89 (by decide) ?_
      dsimp only [mSt1, mSt2, mKill, Nat.reduceAdd]
      obtain rfl : i = 4 := by omega
      exact l2_grow h16 h17 hb ha ko 12 4 _ (by omega) (by omega) (rkP_e (by omega) hf)
    · omega
  | succ m ih =>
    intro i f w4 hi hf
    refine mj_iload_n d_Sea_growRoundKeys_16 rfl ?_
    refine mj_iconst d_Sea_growRoundKeys_17 (nI 4) (by decide) ?_
    refine mj_icmpgeN d_Sea_growRoundKeys_18 73 rfl (by omega) (fun c_18 => ?_) (fun c_18 => ?_)
    · omega
    · refine mj_aload_n d_Sea_growRoundKeys_21 rfl ?_
      refine mj_get d_Sea_growRoundKeys_22 fd_Sea_11 (gne h16 (by decide)) rfl ?_
      refine mj_iload_n d_Sea_growRoundKeys_25 rfl ?_
      refine mj_iconst d_Sea_growRoundKeys_26 (nI 4) (by decide) ?_
      refine mj_isub d_Sea_growRoundKeys_27 ?_
      rw [pk_sub (by omega)]
      refine mj_iload_n d_Sea_growRoundKeys_28 rfl ?_
      refine mj_iconst d_Sea_growRoundKeys_29 (nI 1) (by decide) ?_
      refine mj_iadd d_Sea_growRoundKeys_30 ?_
      rw [nI_add]
      refine mj_iconst d_Sea_growRoundKeys_31 (nI 4) (by decide) ?_
      refine mj_irem d_Sea_growRoundKeys_32 (by decide) ?_
      rw [pk_rem (by omega) (by decide) (by decide)]
      refine mj_iadd d_Sea_growRoundKeys_33 ?_
      rw [nI_add]
      refine mj_ialdN d_Sea_growRoundKeys_34 (gself h17) (by omega) ?_
      rw [hf _ (by omega), rkP_lo (by omega)]
      refine mj_istore d_Sea_growRoundKeys_35 (by decide) ?_
      dsimp only [mSt1, mSt2, mKill, Nat.reduceAdd]
      refine mj_aload_n d_Sea_growRoundKeys_37 rfl ?_
      refine mj_get d_Sea_growRoundKeys_38 fd_Sea_11 (gne h16 (by decide)) rfl ?_
      refine mj_iload_n d_Sea_growRoundKeys_41 rfl ?_
      refine mj_iload_n d_Sea_growRoundKeys_42 rfl ?_
      refine mj_iadd d_Sea_growRoundKeys_43 ?_
      rw [nI_add]
      refine mj_aload_n d_Sea_growRoundKeys_44 rfl ?_
      refine mj_get d_Sea_growRoundKeys_45 fd_Sea_11 (gne h16 (by decide)) rfl ?_
      refine mj_iload_n d_Sea_growRoundKeys_48 rfl ?_
      refine mj_iload_n d_Sea_growRoundKeys_49 rfl ?_
      refine mj_iadd d_Sea_growRoundKeys_50 ?_
      rw [nI_add]
      refine mj_bipush d_Sea_growRoundKeys_51 (nI 16) (by decide) ?_
      refine mj_isub d_Sea_growRoundKeys_53 ?_
      rw [pk_sub (by omega)]
      refine mj_ialdN d_Sea_growRoundKeys_54 (gself h17) (by omega) ?_
      rw [hf _ (by omega), rkP_lo (by omega)]
      refine mj_gets (k := 0) d_Sea_growRoundKeys_55 rfl q_82 ?_
      refine mj_iload d_Sea_growRoundKeys_58 rfl ?_
      refine mj_sipush d_Sea_growRoundKeys_60 (nI 255) (by decide) ?_
      refine mj_iand d_Sea_growRoundKeys_63 ?_
      rw [nI_and255 (by have := rkF_lt hb (16 * a - 4 + (i + 1) % 4) (by omega); omega), Nat.mod_eq_of_lt (rkF_lt hb _ (by omega))]
      refine mj_oaldN d_Sea_growRoundKeys_64 rfl (by have := rkF_lt hb (16 * a - 4 + (i + 1) % 4) (by omega); omega) ?_
      rw [sb_ok _ (rkF_lt hb _ (by omega))]
      refine mj_ixor d_Sea_growRoundKeys_65 ?_
      rw [nI_xor, ← rkP_at (by omega) (by omega)]
      refine mj_iastN d_Sea_growRoundKeys_66 (gself h17) (by omega) ?_
      rw [List.set_set]
      refine mj_iinc d_Sea_growRoundKeys_67 rfl (by decide) (nI (i + 1)) (nI_1 i) ?_
      dsimp only [mSt1, mSt2, mKill, Nat.reduceAdd]
      refine mj_goto d_Sea_growRoundKeys_70 16 rfl ?_
      exact ih (i + 1) _ _ (by omega) (FA_s hf)
theorem lo_grow {L : Nat} {xs : Nat → Int32} {Post : Option Value → mHeap → Prop} {h : mHeap} {f0 : Nat → Int32} {g : Nat → Nat} (h16 : h[16]? = some cSea) (h17 : h[17]? = some (cArr 176 f0)) (hb : Bt 16 g) (kP : ∀ f, FA 176 (rkF g) f → Post none (h.set 17 (cArr 176 f))) : ∀ (m a : Nat) (f : Nat → Int32) (w3 w4 : Option Value), a + m = 11 → 1 ≤ a → FA (16 * a) (rkF g) f → mGo M_Sea_growRoundKeys L xs (1, 20) 0 0 Post 0 0 5 [some (.ref 16), some (.int (nI (rcon a))), some (.int (nI (16 * a))), w3, w4] [] (h.set 17 (cArr 176 f)) := by
  intro m
  induction m with
  | zero =>
    intro a f w3 w4 ha h1 hf
    refine mj_iload_n d_Sea_growRoundKeys_5 rfl ?_
    refine mj_aload_n d_Sea_growRoundKeys_6 rfl ?_
    refine mj_get d_Sea_growRoundKeys_7 fd_Sea_11 (gne h16 (by decide)) rfl ?_
    refine mj_alen d_Sea_growRoundKeys_10 (gself h17) ?_
    refine mj_icmpgeN d_Sea_growRoundKeys_11 138 rfl (by omega) (fun c_11 => ?_) (fun c_11 => ?_)
    · refine mj_vret d_Sea_growRoundKeys_138 rfl (Nat.le_refl _) (Nat.le_refl _) ?_
      exact kP f (FA_le hf (by omega))
    · omega
  | succ m ih =>
    intro a f w3 w4 ha h1 hf
    refine mj_iload_n d_Sea_growRoundKeys_5 rfl ?_
    refine mj_aload_n d_Sea_growRoundKeys_6 rfl ?_
    refine mj_get d_Sea_growRoundKeys_7 fd_Sea_11 (gne h16 (by decide)) rfl ?_
    refine mj_alen d_Sea_growRoundKeys_10 (gself h17) ?_
    refine mj_icmpgeN d_Sea_growRoundKeys_11 138 rfl (by omega) (fun c_11 => ?_) (fun c_11 => ?_)
    · omega
    · refine mj_iconst d_Sea_growRoundKeys_14 (nI 0) (by decide) ?_
      refine mj_istore_n d_Sea_growRoundKeys_15 (by decide) ?_
      dsimp only [mSt1, mSt2, mKill, Nat.reduceAdd]
      exact l1_grow h16 h17 hb (by omega) (fun f w3 w4 hf => ih (a + 1) f w3 w4 (by omega) (by omega) hf) 4 0 f _ (by omega) (FA_c hf (fun j hj => (rkP_lo hj).symm))
theorem s_Sea_growRoundKeys {L : Nat} {xs : Nat → Int32} {Post : Option Value → mHeap → Prop} {h : mHeap} {f0 : Nat → Int32} {g : Nat → Nat} (h16 : h[16]? = some cSea) (h17 : h[17]? = some (cArr 176 f0)) (hb : Bt 16 g) (hg : FA 16 g f0) (kP : ∀ f, FA 176 (rkF g) f → Post none (h.set 17 (cArr 176 f))) : mMet M_Sea_growRoundKeys L xs (1, 20) 0 0 [.ref 16] h Post := by
  refine mMet_of rfl (Nat.le_of_ble_eq_true rfl) ?_
  refine mj_iconst d_Sea_growRoundKeys_0 (nI 1) (by decide) ?_
  refine mj_istore_n d_Sea_growRoundKeys_1 (by decide) ?_
  dsimp only [mSt1, mSt2, mKill, Nat.reduceAdd]
  refine mj_bipush d_Sea_growRoundKeys_2 (nI 16) (by decide) ?_
  refine mj_istore_n d_Sea_growRoundKeys_4 (by decide) ?_
  dsimp only [mSt1, mSt2, mKill, Nat.reduceAdd]
  have e := lo_grow h16 h17 hb kP (L := L) (xs := xs) 10 1 f0 none none (by omega) (by omega) (FA_c hg (fun j hj => by rw [rkF, dif_pos (by omega)]))
  rw [set_same h17] at e
  exact e
