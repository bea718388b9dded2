theorem li_readM {L : Nat} {xs : Nat → Int32} {Post : Option Value → mHeap → Prop} {li nm : List Nat} {cnt : Nat → Nat} {rc : Nat → List Nat} {rk : Nat → Nat} {co : Nat} {pre : mHeap} {fen : Nat → Int32} {mn : Nat} (hll : li.length ≤ 20) (hl4 : 4 ≤ li.length) (hmn : mn = (li.length - 4) / 4) (hen : ∀ j, j < 4 * mn → fen j = nI (li.getD (4 + j) 0)) (hE : ∀ j, 4 ≤ j → li.getD j 0 ≤ 200) {e a : Nat} (ha : a = 4 + 4 * e) (hal : a + 3 < li.length) : ∀ (k n : Nat) (S : R8) (h : mHeap) (w4 : Option Value), n + k = li.getD (a + 2) 0 + 1 ∨ (k = 0 ∧ li.getD (a + 2) 0 < n ∧ n ≤ 201) → MW fen [] S.2.1 nm cnt rc rk co S.2.2.1 S.2.2.2.1 S.2.2.2.2.1 S.2.2.2.2.2.1 S.2.2.2.2.2.2.1 S.2.2.2.2.2.2.2 pre h → AI [] S.2.1 nm cnt rc rk co S.2.2.1 S.2.2.2.1 S.2.2.2.2.1 S.2.2.2.2.2.1 S.2.2.2.2.2.2.1 S.2.2.2.2.2.2.2 → S.1 = 36864 → (∀ (S2 : R8) (h' : mHeap), S2 = (rdI nm cnt rc rk co (li.getD a 0) k n S) → MW fen [] S2.2.1 nm cnt rc rk co S2.2.2.1 S2.2.2.2.1 S2.2.2.2.2.1 S2.2.2.2.2.2.1 S2.2.2.2.2.2.2.1 S2.2.2.2.2.2.2.2 pre h' → AI [] S2.2.1 nm cnt rc rk co S2.2.2.1 S2.2.2.2.1 S2.2.2.2.2.1 S2.2.2.2.2.2.1 S2.2.2.2.2.2.2.1 S2.2.2.2.2.2.2.2 → S2.1 < 65536 →  S2.1 = 36864 → ∀ w3 w4 : Option Value, mGo M_Mod_readAll L xs (7, 167) 0 0 Post 0 0 111 [some (.ref 24), some (.int (nI mn)), some (.int (nI e)), w3, w4] [] h') → (∀ (S2 : R8) (h' : mHeap), S2 = (rdI nm cnt rc rk co (li.getD a 0) k n S) → MW fen [] S2.2.1 nm cnt rc rk co S2.2.2.1 S2.2.2.2.1 S2.2.2.2.2.1 S2.2.2.2.2.2.1 S2.2.2.2.2.2.2.1 S2.2.2.2.2.2.2.2 pre h' → AI [] S2.2.1 nm cnt rc rk co S2.2.2.1 S2.2.2.2.1 S2.2.2.2.2.1 S2.2.2.2.2.2.1 S2.2.2.2.2.2.2.1 S2.2.2.2.2.2.2.2 → S2.1 < 65536 →  S2.1 ≠ 36864 → Post (some (.int (nI S2.1))) h') → mGo M_Mod_readAll L xs (7, 167) 0 0 Post 0 0 56 [some (.ref 24), some (.int (nI mn)), some (.int (nI e)), some (.int (nI n)), w4] [] h := by
  intro k
  have b0 := hE a (by omega)
  have b1 := hE (a + 1) (by omega)
  have b2 := hE (a + 2) (by omega)
  induction k with
  | zero =>
    intro n S h w4 hn hW hA hs ko kr
    refine mj_iload_n d_Mod_readAll_56 rfl ?_
    refine mj_aload_n d_Mod_readAll_57 rfl ?_
    refine mj_get d_Mod_readAll_58 fd_Mod_38 (MW_24 hW) rfl ?_
    refine mj_iconst d_Mod_readAll_61 (nI 4) (by decide) ?_
    refine mj_iload_n d_Mod_readAll_62 rfl ?_
    refine mj_imul d_Mod_readAll_63 ?_
    rw [pk_mul]
    refine mj_iconst d_Mod_readAll_64 (nI 2) (by decide) ?_
    refine mj_iadd d_Mod_readAll_65 ?_
    rw [nI_add]
    refine mj_ialdN d_Mod_readAll_66 (MW_33 hW) (by omega) ?_
    rw [hen _ (by omega), show 4 + (4 * e + 2) = a + 2 by omega]
    refine mj_icmpgtN d_Mod_readAll_67 111 rfl (by omega) (fun c_67 => ?_) (fun c_67 => ?_)
    · exact ko S h rfl hW hA (by omega) hs _ _
    · omega
  | succ k ih =>
    intro n S h w4 hn hW hA hs ko kr
    refine mj_iload_n d_Mod_readAll_56 rfl ?_
    refine mj_aload_n d_Mod_readAll_57 rfl ?_
    refine mj_get d_Mod_readAll_58 fd_Mod_38 (MW_24 hW) rfl ?_
    refine mj_iconst d_Mod_readAll_61 (nI 4) (by decide) ?_
    refine mj_iload_n d_Mod_readAll_62 rfl ?_
    refine mj_imul d_Mod_readAll_63 ?_
    rw [pk_mul]
    refine mj_iconst d_Mod_readAll_64 (nI 2) (by decide) ?_
    refine mj_iadd d_Mod_readAll_65 ?_
    rw [nI_add]
    refine mj_ialdN d_Mod_readAll_66 (MW_33 hW) (by omega) ?_
    rw [hen _ (by omega), show 4 + (4 * e + 2) = a + 2 by omega]
    refine mj_icmpgtN d_Mod_readAll_67 111 rfl (by omega) (fun c_67 => ?_) (fun c_67 => ?_)
    · omega
    · refine mj_aload_n d_Mod_readAll_70 rfl ?_
      refine mj_sipush d_Mod_readAll_71 (nI 178) (by decide) ?_
      refine mj_iload_n d_Mod_readAll_74 rfl ?_
      refine mj_aload_n d_Mod_readAll_75 rfl ?_
      refine mj_get d_Mod_readAll_76 fd_Mod_38 (MW_24 hW) rfl ?_
      refine mj_iconst d_Mod_readAll_79 (nI 4) (by decide) ?_
      refine mj_iload_n d_Mod_readAll_80 rfl ?_
      refine mj_imul d_Mod_readAll_81 ?_
      rw [pk_mul]
      refine mj_ialdN d_Mod_readAll_82 (MW_33 hW) (by omega) ?_
      rw [hen _ (by omega), show 4 + 4 * e = a by omega]
      refine mj_iconst d_Mod_readAll_83 (nI 4) (by decide) ?_
      refine mj_iadd d_Mod_readAll_84 ?_
      rw [nI_add]
      refine mj_iconst d_Mod_readAll_85 (nI 0) (by decide) ?_
      refine mj_virtual (d' := (1, 21)) (mc := 0) (ms := 0) (As := [_, _, _, _]) d_Mod_readAll_86 cw_Mod_begin q_727 q_729 qs_Mod_begin (ci := 6) rfl (MW_24 hW) rfl rfl (mRoomB rfl) ?_
      refine s_Mod_begin hW (by decide) (by decide) (fun h1 hW1 => ?_)
      have hA1 := AI_t hA (headT_Bb (i := 178) (p := n) (q := li.getD a 0 + 4) (c := 0) (by decide) (by omega) (by omega) (by decide)) (by have := headT_len 178 n (li.getD a 0 + 4) 0; omega)
      refine mj_aload_n d_Mod_readAll_89 rfl ?_
      refine mj_virtual (d' := (6, 146)) (mc := 0) (ms := 0) (As := []) d_Mod_readAll_90 cw_Mod_send q_735 q_581 q_582 (ci := 6) rfl (MW_24 hW1) rfl rfl (mRoomB rfl) ?_
      refine s_Mod_send hA1 hW1 (fun S1 h2 hS1 hW2 hA2 hl2 => ?_)
      have e1 : snd8 nm cnt rc rk co (headT 178 n (li.getD a 0 + 4) 0) S = S1 := hS1.symm
      refine mj_istore d_Mod_readAll_93 (by decide) ?_
      dsimp only [mSt1, mSt2, mKill, Nat.reduceAdd]
      refine mj_iload d_Mod_readAll_95 rfl ?_
      refine mj_ldc d_Mod_readAll_97 (nI 36864) q_620 ?_
      refine mj_icmpeqN d_Mod_readAll_99 105 rfl (by omega) (fun c_99 => ?_) (fun c_99 => ?_)
      · refine mj_iinc d_Mod_readAll_105 rfl (by decide) (nI (n + 1)) (nI_1 n) ?_
        dsimp only [mSt1, mSt2, mKill, Nat.reduceAdd]
        refine mj_goto d_Mod_readAll_108 56 rfl ?_
        refine ih (n + 1) S1 h2 _ (by omega) hW2 hA2 c_99 (fun S2 h3 hS2 => ko S2 h3 ?_) (fun S2 h3 hS2 => kr S2 h3 ?_)
        · rw [rdI, e1, if_pos c_99]; exact hS2
        · rw [rdI, e1, if_pos c_99]; exact hS2
      · refine mj_iload d_Mod_readAll_102 rfl ?_
        refine mj_iret d_Mod_readAll_104 rfl rfl (Nat.le_refl _) (Nat.le_refl _) ?_
        refine kr S1 h2 ?_ hW2 hA2 hl2 c_99
        rw [rdI, e1, if_neg c_99]
theorem lo_readM {L : Nat} {xs : Nat → Int32} {Post : Option Value → mHeap → Prop} {li nm : List Nat} {cnt : Nat → Nat} {rc : Nat → List Nat} {rk : Nat → Nat} {co : Nat} {pre : mHeap} {fen : Nat → Int32} {mn : Nat} (hll : li.length ≤ 20) (hl4 : 4 ≤ li.length) (hmn : mn = (li.length - 4) / 4) (hen : ∀ j, j < 4 * mn → fen j = nI (li.getD (4 + j) 0)) (hE : ∀ j, 4 ≤ j → li.getD j 0 ≤ 200) : ∀ (m e : Nat) (S : R8) (h : mHeap) (w3 w4 : Option Value), e + m = mn → MW fen [] S.2.1 nm cnt rc rk co S.2.2.1 S.2.2.2.1 S.2.2.2.2.1 S.2.2.2.2.2.1 S.2.2.2.2.2.2.1 S.2.2.2.2.2.2.2 pre h → AI [] S.2.1 nm cnt rc rk co S.2.2.1 S.2.2.2.1 S.2.2.2.2.1 S.2.2.2.2.2.1 S.2.2.2.2.2.2.1 S.2.2.2.2.2.2.2 → S.1 = 36864 → (∀ (S2 : R8) (h' : mHeap), S2 = (rdO nm cnt rc rk co (li.drop (4 + 4 * e)) S) → MW fen [] S2.2.1 nm cnt rc rk co S2.2.2.1 S2.2.2.2.1 S2.2.2.2.2.1 S2.2.2.2.2.2.1 S2.2.2.2.2.2.2.1 S2.2.2.2.2.2.2.2 pre h' → AI [] S2.2.1 nm cnt rc rk co S2.2.2.1 S2.2.2.2.1 S2.2.2.2.2.1 S2.2.2.2.2.2.1 S2.2.2.2.2.2.2.1 S2.2.2.2.2.2.2.2 → S2.1 < 65536 →  Post (some (.int (nI S2.1))) h') → mGo M_Mod_readAll L xs (7, 167) 0 0 Post 0 0 40 [some (.ref 24), some (.int (nI mn)), some (.int (nI e)), w3, w4] [] h := by
  intro m
  induction m with
  | zero =>
    intro e S h w3 w4 he hW hA hs kf
    refine mj_iload_n d_Mod_readAll_40 rfl ?_
    refine mj_iload_n d_Mod_readAll_41 rfl ?_
    refine mj_icmpgeN d_Mod_readAll_42 117 rfl (by omega) (fun c_42 => ?_) (fun c_42 => ?_)
    · refine mj_ldc d_Mod_readAll_117 (nI 36864) q_620 ?_
      refine mj_iret d_Mod_readAll_119 rfl rfl (Nat.le_refl _) (Nat.le_refl _) ?_
      have e2 : rdO nm cnt rc rk co (li.drop (4 + 4 * e)) S = S := rdO_e (by rw [List.length_drop]; omega)
      have e3 := kf S h e2.symm hW hA (by omega)
      rw [hs] at e3
      exact e3
    · omega
  | succ m ih =>
    intro e S h w3 w4 he hW hA hs kf
    refine mj_iload_n d_Mod_readAll_40 rfl ?_
    refine mj_iload_n d_Mod_readAll_41 rfl ?_
    refine mj_icmpgeN d_Mod_readAll_42 117 rfl (by omega) (fun c_42 => ?_) (fun c_42 => ?_)
    · omega
    · refine mj_aload_n d_Mod_readAll_45 rfl ?_
      refine mj_get d_Mod_readAll_46 fd_Mod_38 (MW_24 hW) rfl ?_
      refine mj_iconst d_Mod_readAll_49 (nI 4) (by decide) ?_
      refine mj_iload_n d_Mod_readAll_50 rfl ?_
      refine mj_imul d_Mod_readAll_51 ?_
      rw [pk_mul]
      refine mj_iconst d_Mod_readAll_52 (nI 1) (by decide) ?_
      refine mj_iadd d_Mod_readAll_53 ?_
      rw [nI_add]
      refine mj_ialdN d_Mod_readAll_54 (MW_33 hW) (by omega) ?_
      rw [hen _ (by omega), show 4 + (4 * e + 1) = 4 + 4 * e + 1 by omega]
      refine mj_istore_n d_Mod_readAll_55 (by decide) ?_
      dsimp only [mSt1, mSt2, mKill, Nat.reduceAdd]
      have b1 := hE (4 + 4 * e + 1) (by omega)
      have b2 := hE (4 + 4 * e + 2) (by omega)
      refine li_readM hll hl4 hmn hen hE (a := 4 + 4 * e) rfl (by omega) (li.getD (4 + 4 * e + 2) 0 + 1 - li.getD (4 + 4 * e + 1) 0) _ S h _ (by omega) hW hA hs (fun S2 h2 hS2 hW2 hA2 hl2 hs2 w3 w4 => ?_) (fun S2 h2 hS2 hW2 hA2 hl2 hs2 => kf S2 h2 (by rw [rdO_4 (by omega), ← hS2, if_neg hs2]) hW2 hA2 hl2)
      refine mj_iinc d_Mod_readAll_111 rfl (by decide) (nI (e + 1)) (nI_1 e) ?_
      dsimp only [mSt1, mSt2, mKill, Nat.reduceAdd]
      refine mj_goto d_Mod_readAll_114 40 rfl ?_
      exact ih (e + 1) S2 h2 _ _ (by omega) hW2 hA2 hs2 (fun S3 h3 hS3 hW3 hA3 hl3 => kf S3 h3 (by rw [rdO_4 (by omega), ← hS2, if_pos hs2]; exact hS3) hW3 hA3 hl3)
theorem lc_readM {L : Nat} {xs : Nat → Int32} {Post : Option Value → mHeap → Prop} {nm : List Nat} {cnt : Nat → Nat} {rc : Nat → List Nat} {rk : Nat → Nat} {co : Nat} {pre : mHeap} {S : R8} {mn : Nat} (hmn : mn = (S.2.1.length - 4) / 4) (hA : AI [] S.2.1 nm cnt rc rk co S.2.2.1 S.2.2.2.1 S.2.2.2.2.1 S.2.2.2.2.2.1 S.2.2.2.2.2.2.1 S.2.2.2.2.2.2.2) (hs : S.1 = 36864) (hL : 4 ≤ S.2.1.length ∧ S.2.1.length ≤ 20) (hE : ∀ j, 4 ≤ j → S.2.1.getD j 0 ≤ 200) (kP : ∀ (S2 : R8) (fen2 : Nat → Int32) (h' : mHeap), S2 = (rdO nm cnt rc rk co (S.2.1.drop 4) S) → MW fen2 [] S2.2.1 nm cnt rc rk co S2.2.2.1 S2.2.2.2.1 S2.2.2.2.2.1 S2.2.2.2.2.2.1 S2.2.2.2.2.2.2.1 S2.2.2.2.2.2.2.2 pre h' → AI [] S2.2.1 nm cnt rc rk co S2.2.2.1 S2.2.2.2.1 S2.2.2.2.2.1 S2.2.2.2.2.2.1 S2.2.2.2.2.2.2.1 S2.2.2.2.2.2.2.2 → S2.1 < 65536 → Post (some (.int (nI S2.1))) h') : ∀ (m k : Nat) (h : mHeap) (fen : Nat → Int32), k + m = 4 * mn → MW fen [] S.2.1 nm cnt rc rk co S.2.2.1 S.2.2.2.1 S.2.2.2.2.1 S.2.2.2.2.2.1 S.2.2.2.2.2.2.1 S.2.2.2.2.2.2.2 pre h → (∀ j, j < k → fen j = nI (S.2.1.getD (4 + j) 0)) → mGo M_Mod_readAll L xs (7, 167) 0 0 Post 0 0 11 [some (.ref 24), some (.int (nI mn)), some (.int (nI k)), none, none] [] h := by
  intro m
  induction m with
  | zero =>
    intro k h fen hk hW hen
    refine mj_iload_n d_Mod_readAll_11 rfl ?_
    refine mj_iconst d_Mod_readAll_12 (nI 4) (by decide) ?_
    refine mj_iload_n d_Mod_readAll_13 rfl ?_
    refine mj_imul d_Mod_readAll_14 ?_
    rw [pk_mul]
    refine mj_icmpgeN d_Mod_readAll_15 38 rfl (by omega) (fun c_15 => ?_) (fun c_15 => ?_)
    · refine mj_iconst d_Mod_readAll_38 (nI 0) (by decide) ?_
      refine mj_istore_n d_Mod_readAll_39 (by decide) ?_
      dsimp only [mSt1, mSt2, mKill, Nat.reduceAdd]
      exact lo_readM hL.2 hL.1 hmn (fun j hj => hen j (by omega)) hE mn 0 S h _ _ (by omega) hW hA hs (fun S2 h2 hS2 => kP S2 _ h2 hS2)
    · omega
  | succ m ih =>
    intro k h fen hk hW hen
    obtain ⟨fo, h32, hr⟩ := MW_32 hW
    refine mj_iload_n d_Mod_readAll_11 rfl ?_
    refine mj_iconst d_Mod_readAll_12 (nI 4) (by decide) ?_
    refine mj_iload_n d_Mod_readAll_13 rfl ?_
    refine mj_imul d_Mod_readAll_14 ?_
    rw [pk_mul]
    refine mj_icmpgeN d_Mod_readAll_15 38 rfl (by omega) (fun c_15 => ?_) (fun c_15 => ?_)
    · omega
    · refine mj_aload_n d_Mod_readAll_18 rfl ?_
      refine mj_get d_Mod_readAll_19 fd_Mod_38 (MW_24 hW) rfl ?_
      refine mj_iload_n d_Mod_readAll_22 rfl ?_
      refine mj_aload_n d_Mod_readAll_23 rfl ?_
      refine mj_get d_Mod_readAll_24 fd_Mod_35 (MW_24 hW) rfl ?_
      refine mj_iconst d_Mod_readAll_27 (nI 4) (by decide) ?_
      refine mj_iload_n d_Mod_readAll_28 rfl ?_
      refine mj_iadd d_Mod_readAll_29 ?_
      rw [nI_add]
      refine mj_ialdN d_Mod_readAll_30 h32 (by omega) ?_
      rw [hr _ (by omega)]
      refine mj_iastN d_Mod_readAll_31 (MW_33 hW) (by omega) ?_
      have hW1 := MW_s33 (g2 := upd fen k (nI (S.2.1.getD (4 + k) 0))) hW
      refine mj_iinc d_Mod_readAll_32 rfl (by decide) (nI (k + 1)) (nI_1 k) ?_
      dsimp only [mSt1, mSt2, mKill, Nat.reduceAdd]
      refine mj_goto d_Mod_readAll_35 11 rfl ?_
      refine ih (k + 1) _ _ (by omega) hW1 (fun j hj => ?_)
      by_cases e : j = k
      · subst e; rw [pk_us]
      · rw [pk_un e, hen j (by omega)]
theorem s_Mod_readAll {L : Nat} {xs : Nat → Int32} {Post : Option Value → mHeap → Prop} {nm : List Nat} {cnt : Nat → Nat} {rc : Nat → List Nat} {rk : Nat → Nat} {co : Nat} {pre : mHeap} {S : R8} {h : mHeap} {fen : Nat → Int32} (hW : MW fen [] S.2.1 nm cnt rc rk co S.2.2.1 S.2.2.2.1 S.2.2.2.2.1 S.2.2.2.2.2.1 S.2.2.2.2.2.2.1 S.2.2.2.2.2.2.2 pre h) (hA : AI [] S.2.1 nm cnt rc rk co S.2.2.1 S.2.2.2.1 S.2.2.2.2.1 S.2.2.2.2.2.1 S.2.2.2.2.2.2.1 S.2.2.2.2.2.2.2) (hs : S.1 = 36864) (hL : 4 ≤ S.2.1.length ∧ S.2.1.length ≤ 20) (hE : ∀ j, 4 ≤ j → S.2.1.getD j 0 ≤ 200) (kP : ∀ (S2 : R8) (fen2 : Nat → Int32) (h' : mHeap), S2 = (rdO nm cnt rc rk co (S.2.1.drop 4) S) → MW fen2 [] S2.2.1 nm cnt rc rk co S2.2.2.1 S2.2.2.2.1 S2.2.2.2.2.1 S2.2.2.2.2.2.1 S2.2.2.2.2.2.2.1 S2.2.2.2.2.2.2.2 pre h' → AI [] S2.2.1 nm cnt rc rk co S2.2.2.1 S2.2.2.2.1 S2.2.2.2.2.1 S2.2.2.2.2.2.1 S2.2.2.2.2.2.2.1 S2.2.2.2.2.2.2.2 → S2.1 < 65536 → Post (some (.int (nI S2.1))) h') : mMet M_Mod_readAll L xs (7, 167) 0 0 [.ref 24] h Post := by
  refine mMet_of rfl (Nat.le_of_ble_eq_true rfl) ?_
  refine mj_aload_n d_Mod_readAll_0 rfl ?_
  refine mj_get d_Mod_readAll_1 fd_Mod_100 (MW_24 hW) rfl ?_
  refine mj_iconst d_Mod_readAll_4 (nI 4) (by decide) ?_
  refine mj_isub d_Mod_readAll_5 ?_
  rw [pk_sub (by omega)]
  refine mj_iconst d_Mod_readAll_6 (nI 4) (by decide) ?_
  refine mj_idiv d_Mod_readAll_7 (by decide) ?_
  rw [pk_div (by omega) (by decide) (by decide)]
  refine mj_istore_n d_Mod_readAll_8 (by decide) ?_
  dsimp only [mSt1, mSt2, mKill, Nat.reduceAdd]
  refine mj_iconst d_Mod_readAll_9 (nI 0) (by decide) ?_
  refine mj_istore_n d_Mod_readAll_10 (by decide) ?_
  dsimp only [mSt1, mSt2, mKill, Nat.reduceAdd]
  exact lc_readM rfl hA hs hL hE kP _ 0 h fen (Nat.zero_add _) hW (fun j hj => by omega)
