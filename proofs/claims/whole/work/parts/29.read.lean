/-- the records n, n + 1, .. (k of them) of a file are read, until one isn't -/
def rdI (nm : List Nat) (cnt : Nat → Nat) (rc : Nat → List Nat) (rk : Nat → Nat) (co : Nat) (e : Nat) : Nat → Nat → R8 → R8
  | 0, _, S => S
  | k + 1, n, S => if (snd8 nm cnt rc rk co (headT 178 n (e + 4) 0) S).1 = 36864 then rdI nm cnt rc rk co e k (n + 1) (snd8 nm cnt rc rk co (headT 178 n (e + 4) 0) S) else snd8 nm cnt rc rk co (headT 178 n (e + 4) 0) S
/-- all entries -/
def rdO (nm : List Nat) (cnt : Nat → Nat) (rc : Nat → List Nat) (rk : Nat → Nat) (co : Nat) : List Nat → R8 → R8
  | e0 :: e1 :: e2 :: _ :: l, S => if (rdI nm cnt rc rk co e0 (e2 + 1 - e1) e1 S).1 = 36864 then rdO nm cnt rc rk co l (rdI nm cnt rc rk co e0 (e2 + 1 - e1) e1 S) else rdI nm cnt rc rk co e0 (e2 + 1 - e1) e1 S
  | _, S => S
theorem rdO_4 {nm : List Nat} {cnt : Nat → Nat} {rc : Nat → List Nat} {rk : Nat → Nat} {co : Nat} {l : List Nat} {a : Nat} {S : R8} (h : a + 3 < l.length) : rdO nm cnt rc rk co (l.drop a) S = if (rdI nm cnt rc rk co (l.getD a 0) (l.getD (a + 2) 0 + 1 - l.getD (a + 1) 0) (l.getD (a + 1) 0) S).1 = 36864 then rdO nm cnt rc rk co (l.drop (a + 4)) (rdI nm cnt rc rk co (l.getD a 0) (l.getD (a + 2) 0 + 1 - l.getD (a + 1) 0) (l.getD (a + 1) 0) S) else rdI nm cnt rc rk co (l.getD a 0) (l.getD (a + 2) 0 + 1 - l.getD (a + 1) 0) (l.getD (a + 1) 0) S := by
  have e : l.drop a = l.getD a 0 :: l.getD (a + 1) 0 :: l.getD (a + 2) 0 :: l.getD (a + 3) 0 :: l.drop (a + 4) := by
    have g : ∀ i, i < l.length → l.drop i = l.getD i 0 :: l.drop (i + 1) := fun i hi => by
      rw [List.drop_eq_getElem_cons hi, List.getD_eq_getElem?_getD, List.getElem?_eq_getElem hi]
      rfl
    rw [g a (by omega), g (a + 1) (by omega), g (a + 2) (by omega), g (a + 3) (by omega)]
  rw [e, rdO]
theorem rdO_e {nm : List Nat} {cnt : Nat → Nat} {rc : Nat → List Nat} {rk : Nat → Nat} {co : Nat} {l : List Nat} {S : R8} (h : l.length < 4) : rdO nm cnt rc rk co l S = S := by
  match l, h with
  | [], _ => rfl
  | [_], _ => rfl
  | [_, _], _ => rfl
  | [_, _, _], _ => rfl
theorem li_read {L : Nat} {xs : Nat → Int32} {Post : Option Value → mHeap → Prop} {li nm : List Nat} {cnt : Nat → Nat} {rc : Nat → List Nat} {rk : Nat → Nat} {co : Nat} {tl : mHeap} {a : Nat} (ha : a + 3 < li.length) (hll : li.length ≤ 32) (hE : ∀ j, 4 ≤ j → li.getD j 0 ≤ 200) (ha4 : 4 ≤ a) : ∀ (k n : Nat) (S : R8) (h : mHeap) (w3 : Option Value), n + k = li.getD (a + 2) 0 + 1 ∨ (k = 0 ∧ li.getD (a + 2) 0 < n ∧ n ≤ 201) → CWl li [] S.2.1 nm cnt rc rk co S.2.2.1 S.2.2.2.1 S.2.2.2.2.1 S.2.2.2.2.2.1 S.2.2.2.2.2.2.1 S.2.2.2.2.2.2.2 tl h → AI [] S.2.1 nm cnt rc rk co S.2.2.1 S.2.2.2.1 S.2.2.2.2.1 S.2.2.2.2.2.1 S.2.2.2.2.2.2.1 S.2.2.2.2.2.2.2 → S.1 = 36864 → ( ∀ (S2 : R8) (h' : mHeap), S2 = (rdI nm cnt rc rk co (li.getD a 0) k n S) → CWl li [] S2.2.1 nm cnt rc rk co S2.2.2.1 S2.2.2.2.1 S2.2.2.2.2.1 S2.2.2.2.2.2.1 S2.2.2.2.2.2.2.1 S2.2.2.2.2.2.2.2 tl h' → AI [] S2.2.1 nm cnt rc rk co S2.2.2.1 S2.2.2.2.1 S2.2.2.2.2.1 S2.2.2.2.2.2.1 S2.2.2.2.2.2.2.1 S2.2.2.2.2.2.2.2 → S2.1 < 65536 →  S2.1 = 36864 → ∀ w2 w3 : Option Value, mGo M_Pur_readRecords L xs (6, 164) 0 0 Post 0 0 107 [some (.ref 0), some (.int (nI a)), w2, w3] [] h') → ( ∀ (S2 : R8) (h' : mHeap), S2 = (rdI nm cnt rc rk co (li.getD a 0) k n S) → CWl li [] S2.2.1 nm cnt rc rk co S2.2.2.1 S2.2.2.2.1 S2.2.2.2.2.1 S2.2.2.2.2.2.1 S2.2.2.2.2.2.2.1 S2.2.2.2.2.2.2.2 tl h' → AI [] S2.2.1 nm cnt rc rk co S2.2.2.1 S2.2.2.2.1 S2.2.2.2.2.1 S2.2.2.2.2.2.1 S2.2.2.2.2.2.2.1 S2.2.2.2.2.2.2.2 → S2.1 < 65536 →  S2.1 ≠ 36864 → Post (some (.int (nI S2.1))) h') → mGo M_Pur_readRecords L xs (6, 164) 0 0 Post 0 0 44 [some (.ref 0), some (.int (nI a)), some (.int (nI n)), w3] [] h := by
  intro k
  have b0 := hE a ha4
  have b1 := hE (a + 1) (by omega)
  have b2 := hE (a + 2) (by omega)
  induction k with
  | zero =>
    intro n S h w3 hn hW hA hs ko kr
    obtain ⟨lf, hq⟩ := cw5 hW
    refine mj_iload_n d_Pur_readRecords_44 rfl ?_
    refine mj_aload_n d_Pur_readRecords_45 rfl ?_
    refine mj_get d_Pur_readRecords_46 fd_Pur_21 (cw0 hW) rfl ?_
    refine mj_iload_n d_Pur_readRecords_49 rfl ?_
    refine mj_iconst d_Pur_readRecords_50 (nI 2) (by decide) ?_
    refine mj_iadd d_Pur_readRecords_51 ?_
    rw [nI_add]
    refine mj_virtual (d' := (0, 0)) (mc := 0) (ms := 0) (As := [_]) d_Pur_readRecords_52 cw_Row_at q_359 q_229 q_230 (ci := 0) rfl hq.1 rfl rfl (mRoomB rfl) ?_
    refine s_Row_at hq ?_
    rw [atV_in (by omega) (by omega)]
    refine mj_icmpgtN d_Pur_readRecords_55 107 rfl (by omega) (fun c_55 => ?_) (fun c_55 => ?_)
    · exact ko S h rfl hW hA (by omega) hs _ _
    · omega
  | succ k ih =>
    intro n S h w3 hn hW hA hs ko kr
    obtain ⟨lf, hq⟩ := cw5 hW
    refine mj_iload_n d_Pur_readRecords_44 rfl ?_
    refine mj_aload_n d_Pur_readRecords_45 rfl ?_
    refine mj_get d_Pur_readRecords_46 fd_Pur_21 (cw0 hW) rfl ?_
    refine mj_iload_n d_Pur_readRecords_49 rfl ?_
    refine mj_iconst d_Pur_readRecords_50 (nI 2) (by decide) ?_
    refine mj_iadd d_Pur_readRecords_51 ?_
    rw [nI_add]
    refine mj_virtual (d' := (0, 0)) (mc := 0) (ms := 0) (As := [_]) d_Pur_readRecords_52 cw_Row_at q_359 q_229 q_230 (ci := 0) rfl hq.1 rfl rfl (mRoomB rfl) ?_
    refine s_Row_at hq ?_
    rw [atV_in (by omega) (by omega)]
    refine mj_icmpgtN d_Pur_readRecords_55 107 rfl (by omega) (fun c_55 => ?_) (fun c_55 => ?_)
    · omega
    · refine mj_aload_n d_Pur_readRecords_58 rfl ?_
      refine mj_sipush d_Pur_readRecords_59 (nI 178) (by decide) ?_
      refine mj_iload_n d_Pur_readRecords_62 rfl ?_
      refine mj_aload_n d_Pur_readRecords_63 rfl ?_
      refine mj_get d_Pur_readRecords_64 fd_Pur_21 (cw0 hW) rfl ?_
      refine mj_iload_n d_Pur_readRecords_67 rfl ?_
      refine mj_virtual (d' := (0, 0)) (mc := 0) (ms := 0) (As := [_]) d_Pur_readRecords_68 cw_Row_at q_359 q_229 q_230 (ci := 0) rfl hq.1 rfl rfl (mRoomB rfl) ?_
      refine s_Row_at hq ?_
      rw [atV_in (by omega) (by omega)]
      refine mj_iconst d_Pur_readRecords_71 (nI 4) (by decide) ?_
      refine mj_iadd d_Pur_readRecords_72 ?_
      rw [nI_add]
      refine mj_iconst d_Pur_readRecords_73 (nI 0) (by decide) ?_
      refine mj_virtual (d' := (2, 45)) (mc := 0) (ms := 0) (As := [_, _, _, _]) d_Pur_readRecords_74 cw_Pur_typeHead q_426 q_428 qs_Pur_typeHead (ci := 5) rfl (cw0 hW) rfl rfl (mRoomB rfl) ?_
      refine s_Pur_typeHead hA hW (by decide) (by decide) (fun h1 hW1 => ?_)
      have hA1 := AI_t hA (headT_Bb (i := 178) (p := n) (q := li.getD a 0 + 4) (c := 0) (by decide) (by omega) (by omega) (by decide)) (by have := headT_len 178 n (li.getD a 0 + 4) 0; omega)
      refine mj_aload_n d_Pur_readRecords_77 rfl ?_
      refine mj_get d_Pur_readRecords_78 fd_Pur_34 (cw0 hW1) rfl ?_
      refine mj_aload_n d_Pur_readRecords_81 rfl ?_
      refine mj_get d_Pur_readRecords_82 fd_Pur_14 (cw0 hW1) rfl ?_
      refine mj_aload_n d_Pur_readRecords_85 rfl ?_
      refine mj_get d_Pur_readRecords_86 fd_Pur_18 (cw0 hW1) rfl ?_
      refine mj_virtual (d' := (5, 141)) (mc := 0) (ms := 0) (As := [_, _]) d_Pur_readRecords_89 cw_Crd_obey q_215 q_216 q_217 (ci := 4) rfl (cw9 hW1) rfl rfl (mRoomB rfl) ?_
      refine c_obey hA1 hW1 (fun S1 h2 hS1 hW2 hA2 hl2 => ?_)
      have e1 : snd8 nm cnt rc rk co (headT 178 n (li.getD a 0 + 4) 0) S = S1 := hS1.symm
      refine mj_istore_n d_Pur_readRecords_92 (by decide) ?_
      dsimp only [mSt1, mSt2, mKill, Nat.reduceAdd]
      refine mj_iload_n d_Pur_readRecords_93 rfl ?_
      refine mj_ldc d_Pur_readRecords_94 (nI 36864) q_432 ?_
      refine mj_icmpeqN d_Pur_readRecords_96 101 rfl (by omega) (fun c_96 => ?_) (fun c_96 => ?_)
      · refine mj_iinc d_Pur_readRecords_101 rfl (by decide) (nI (n + 1)) (nI_1 n) ?_
        dsimp only [mSt1, mSt2, mKill, Nat.reduceAdd]
        refine mj_goto d_Pur_readRecords_104 44 rfl ?_
        refine ih (n + 1) S1 h2 _ (by omega) hW2 hA2 c_96 (fun S2 h3 hS2 => ko S2 h3 ?_) (fun S2 h3 hS2 => kr S2 h3 ?_)
        · rw [rdI, e1, if_pos c_96]; exact hS2
        · rw [rdI, e1, if_pos c_96]; exact hS2
      · refine mj_iload_n d_Pur_readRecords_99 rfl ?_
        refine mj_iret d_Pur_readRecords_100 rfl rfl (Nat.le_refl _) (Nat.le_refl _) ?_
        refine kr S1 h2 ?_ hW2 hA2 hl2 c_96
        rw [rdI, e1, if_neg c_96]
theorem lo_read {L : Nat} {xs : Nat → Int32} {Post : Option Value → mHeap → Prop} {li nm : List Nat} {cnt : Nat → Nat} {rc : Nat → List Nat} {rk : Nat → Nat} {co : Nat} {tl : mHeap} (hll : li.length ≤ 32) (hE : ∀ j, 4 ≤ j → li.getD j 0 ≤ 200) : ∀ (m a : Nat) (S : R8) (h : mHeap) (w2 w3 : Option Value), li.length < a + m → 4 ≤ a ∧ a < 100 → CWl li [] S.2.1 nm cnt rc rk co S.2.2.1 S.2.2.2.1 S.2.2.2.2.1 S.2.2.2.2.2.1 S.2.2.2.2.2.2.1 S.2.2.2.2.2.2.2 tl h → AI [] S.2.1 nm cnt rc rk co S.2.2.1 S.2.2.2.1 S.2.2.2.2.1 S.2.2.2.2.2.1 S.2.2.2.2.2.2.1 S.2.2.2.2.2.2.2 → S.1 = 36864 → (∀ (S2 : R8) (h' : mHeap), S2 = (rdO nm cnt rc rk co (li.drop a) S) → CWl li [] S2.2.1 nm cnt rc rk co S2.2.2.1 S2.2.2.2.1 S2.2.2.2.2.1 S2.2.2.2.2.2.1 S2.2.2.2.2.2.2.1 S2.2.2.2.2.2.2.2 tl h' → AI [] S2.2.1 nm cnt rc rk co S2.2.2.1 S2.2.2.2.1 S2.2.2.2.2.1 S2.2.2.2.2.2.1 S2.2.2.2.2.2.2.1 S2.2.2.2.2.2.2.2 → S2.1 < 65536 →  Post (some (.int (nI S2.1))) h') → mGo M_Pur_readRecords L xs (6, 164) 0 0 Post 0 0 20 [some (.ref 0), some (.int (nI a)), w2, w3] [] h := by
  intro m
  induction m with
  | zero =>
    intro a S h w2 w3 hm ha4 hW hA hs kP
    obtain ⟨lf, hq⟩ := cw5 hW
    refine mj_iload_n d_Pur_readRecords_20 rfl ?_
    refine mj_iconst d_Pur_readRecords_21 (nI 3) (by decide) ?_
    refine mj_iadd d_Pur_readRecords_22 ?_
    rw [nI_add]
    refine mj_aload_n d_Pur_readRecords_23 rfl ?_
    refine mj_get d_Pur_readRecords_24 fd_Pur_21 (cw0 hW) rfl ?_
    refine mj_virtual (d' := (0, 0)) (mc := 0) (ms := 0) (As := []) d_Pur_readRecords_27 cw_Row_size q_203 q_204 q_205 (ci := 0) rfl hq.1 rfl rfl (mRoomB rfl) ?_
    refine s_Row_size hq ?_
    refine mj_icmpgeN d_Pur_readRecords_30 113 rfl (by omega) (fun c_30 => ?_) (fun c_30 => ?_)
    · refine mj_ldc d_Pur_readRecords_113 (nI 36864) q_432 ?_
      refine mj_iret d_Pur_readRecords_115 rfl rfl (Nat.le_refl _) (Nat.le_refl _) ?_
      have e := kP S h (by rw [rdO_e (by simp; omega)]) hW hA (by omega)
      rw [hs] at e
      exact e
    · omega
  | succ m ih =>
    intro a S h w2 w3 hm ha4 hW hA hs kP
    obtain ⟨lf, hq⟩ := cw5 hW
    have ha4a := ha4
    obtain ⟨ha4, -⟩ := ha4a
    refine mj_iload_n d_Pur_readRecords_20 rfl ?_
    refine mj_iconst d_Pur_readRecords_21 (nI 3) (by decide) ?_
    refine mj_iadd d_Pur_readRecords_22 ?_
    rw [nI_add]
    refine mj_aload_n d_Pur_readRecords_23 rfl ?_
    refine mj_get d_Pur_readRecords_24 fd_Pur_21 (cw0 hW) rfl ?_
    refine mj_virtual (d' := (0, 0)) (mc := 0) (ms := 0) (As := []) d_Pur_readRecords_27 cw_Row_size q_203 q_204 q_205 (ci := 0) rfl hq.1 rfl rfl (mRoomB rfl) ?_
    refine s_Row_size hq ?_
    refine mj_icmpgeN d_Pur_readRecords_30 113 rfl (by omega) (fun c_30 => ?_) (fun c_30 => ?_)
    · refine mj_ldc d_Pur_readRecords_113 (nI 36864) q_432 ?_
      refine mj_iret d_Pur_readRecords_115 rfl rfl (Nat.le_refl _) (Nat.le_refl _) ?_
      have e := kP S h (by rw [rdO_e (by simp; omega)]) hW hA (by omega)
      rw [hs] at e
      exact e
    · refine mj_aload_n d_Pur_readRecords_33 rfl ?_
      refine mj_get d_Pur_readRecords_34 fd_Pur_21 (cw0 hW) rfl ?_
      refine mj_iload_n d_Pur_readRecords_37 rfl ?_
      refine mj_iconst d_Pur_readRecords_38 (nI 1) (by decide) ?_
      refine mj_iadd d_Pur_readRecords_39 ?_
      rw [nI_add]
      refine mj_virtual (d' := (0, 0)) (mc := 0) (ms := 0) (As := [_]) d_Pur_readRecords_40 cw_Row_at q_359 q_229 q_230 (ci := 0) rfl hq.1 rfl rfl (mRoomB rfl) ?_
      refine s_Row_at hq ?_
      rw [atV_in (by omega) (by omega)]
      refine mj_istore_n d_Pur_readRecords_43 (by decide) ?_
      dsimp only [mSt1, mSt2, mKill, Nat.reduceAdd]
      have b1 := hE (a + 1) (by omega)
      refine li_read (by omega) hll hE ha4 (li.getD (a + 2) 0 + 1 - li.getD (a + 1) 0) (li.getD (a + 1) 0) S h _ (by omega) hW hA hs (fun S2 h3 hS2 hW2 hA2 hl2 hs2 w2 w3 => ?_) (fun S2 h3 hS2 hW2 hA2 hl2 hs2 => ?_)
      · refine mj_iinc d_Pur_readRecords_107 rfl (by decide) (nI (a + 4)) (by rw [← nI_add]; rfl) ?_
        dsimp only [mSt1, mSt2, mKill, Nat.reduceAdd]
        refine mj_goto d_Pur_readRecords_110 20 rfl ?_
        refine ih (a + 4) S2 h3 _ _ (by omega) (by omega) hW2 hA2 hs2 (fun S3 h4 hS3 hW3 hA3 hl3 => kP S3 h4 ?_ hW3 hA3 hl3)
        rw [rdO_4 (by omega), ← hS2, if_pos hs2]; exact hS3
      · exact kP S2 h3 (by rw [rdO_4 (by omega), ← hS2, if_neg hs2]) hW2 hA2 hl2
theorem s_Pur_readRecords {L : Nat} {xs : Nat → Int32} {Post : Option Value → mHeap → Prop} {li nm : List Nat} {cnt : Nat → Nat} {rc : Nat → List Nat} {rk : Nat → Nat} {co : Nat} {tl h : mHeap} {S : R8} (hW : CWl li [] S.2.1 nm cnt rc rk co S.2.2.1 S.2.2.2.1 S.2.2.2.2.1 S.2.2.2.2.2.1 S.2.2.2.2.2.2.1 S.2.2.2.2.2.2.2 tl h) (hA : AI [] S.2.1 nm cnt rc rk co S.2.2.1 S.2.2.2.1 S.2.2.2.2.1 S.2.2.2.2.2.1 S.2.2.2.2.2.2.1 S.2.2.2.2.2.2.2) (hs : S.1 = 36864) (hE : ∀ j, 4 ≤ j → S.2.1.getD j 0 ≤ 200) (kP : ∀ (S2 : R8) (li2 : List Nat) (h' : mHeap), S2 = (rdO nm cnt rc rk co (S.2.1.drop 4) S) → CWl li2 [] S2.2.1 nm cnt rc rk co S2.2.2.1 S2.2.2.2.1 S2.2.2.2.2.1 S2.2.2.2.2.2.1 S2.2.2.2.2.2.2.1 S2.2.2.2.2.2.2.2 tl h' → AI [] S2.2.1 nm cnt rc rk co S2.2.2.1 S2.2.2.2.1 S2.2.2.2.2.1 S2.2.2.2.2.2.1 S2.2.2.2.2.2.2.1 S2.2.2.2.2.2.2.2 → S2.1 < 65536 → Post (some (.int (nI S2.1))) h') : mMet M_Pur_readRecords L xs (6, 164) 0 0 [.ref 0] h Post := by
  refine mMet_of rfl (Nat.le_of_ble_eq_true rfl) ?_
  obtain ⟨lf, hq⟩ := cw5 hW
  obtain ⟨rf, hr⟩ := cw3 hA hW
  have hrl := hA.2.1.2
  refine mj_aload_n d_Pur_readRecords_0 rfl ?_
  refine mj_get d_Pur_readRecords_1 fd_Pur_21 (cw0 hW) rfl ?_
  refine mj_virtual (d' := (0, 0)) (mc := 0) (ms := 0) (As := []) d_Pur_readRecords_4 cw_Row_clear q_207 q_208 q_209 (ci := 0) rfl hq.1 rfl rfl (mRoomB rfl) ?_
  refine s_Row_clear hq ?_
  have q0 : RA (rPut h 5 6 32 [] lf) 5 6 32 [] lf := RA_put hq (fun j hj => by cases hj) (by decide)
  refine mj_aload_n d_Pur_readRecords_7 rfl ?_
  refine mj_get d_Pur_readRecords_8 fd_Pur_21 ((rPut_get (by decide) (by decide)).trans (cw0 hW)) rfl ?_
  refine mj_aload_n d_Pur_readRecords_11 rfl ?_
  refine mj_get d_Pur_readRecords_12 fd_Pur_18 ((rPut_get (by decide) (by decide)).trans (cw0 hW)) rfl ?_
  refine mj_virtual (d' := (1, 21)) (mc := 0) (ms := 0) (As := [_]) d_Pur_readRecords_15 cw_Row_addRow q_431 q_269 q_270 (ci := 0) rfl q0.1 rfl rfl (mRoomB rfl) ?_
  refine s_Row_addRow q0 (RA_other hr (by decide) (by decide) (by decide) (by decide)) (by decide) (by decide) (by decide) (by decide) (by simp; omega) (fun g hg => ?_)
  rw [rPut_rPut (by decide), List.nil_append]
  rw [List.nil_append] at hg
  have hW1 := cwl hW hg hrl
  refine mj_iconst d_Pur_readRecords_18 (nI 4) (by decide) ?_
  refine mj_istore_n d_Pur_readRecords_19 (by decide) ?_
  dsimp only [mSt1, mSt2, mKill, Nat.reduceAdd]
  exact lo_read (li := S.2.1) hrl hE 100 4 S _ _ _ (by omega) (by decide) hW1 hA hs (fun S2 h2 hS2 hW2 hA2 hl2 => kP S2 _ h2 hS2 hW2 hA2 hl2)
