def payE (S : R8) : Int32 × R8 := if S.1 ≠ 36864 then (-(nI S.1), S) else (if (atV S.2.1 (fV S.2.1 (nI 40743))) = nI 64 then nI 2 else nI 0, S)
def agT (ag : Nat) (a : Int64) (n : Int32) : List Nat := slT (if ag = 0 then 0 else 64) a n 12 ++ [48, if ag = 0 then 53 else 48]
def payD (nm : List Nat) (cnt : Nat → Nat) (rc : Nat → List Nat) (rk : Nat → Nat) (co : Nat) (sh a : Int64) (n : Int32) (good : Nat) (S : R8) : Int32 × R8 := if S.1 ≠ 36864 then (-(nI S.1), S) else if (atV S.2.1 (fV S.2.1 (nI 40743))) = nI 64 then (nI 1, S) else if ¬ (atV S.2.1 (fV S.2.1 (nI 40743))) = nI 128 then (nI 0, S) else payE (snd8 nm cnt rc rk co (agT (genN rk S.2.1 sh n good) a n) S)
def payC (nm : List Nat) (cnt : Nat → Nat) (rc : Nat → List Nat) (rk : Nat → Nat) (co : Nat) (sh a : Int64) (n : Int32) (ask good : Nat) (S : R8) : Int32 × R8 := payD nm cnt rc rk co sh a n good (snd8 nm cnt rc rk co (slT (if ask = 0 then 64 else 128) a n 10) S)
def payP (nm : List Nat) (cnt : Nat → Nat) (rc : Nat → List Nat) (rk : Nat → Nat) (co : Nat) (sh a : Int64) (n : Int32) (ask : Nat) (S : R8) : Int32 × R8 := if S.1 ≠ 36864 ∧ ¬ S.1 / 16 = 1596 then (-(nI S.1), S) else payC nm cnt rc rk co sh a n ask (if S.1 = 36864 then 1 else 0) S
def payB (nm : List Nat) (cnt : Nat → Nat) (rc : Nat → List Nat) (rk : Nat → Nat) (co : Nat) (sh a : Int64) (n pin : Int32) (ask : Nat) (S : R8) : Int32 × R8 := if S.1 ≠ 36864 then (-(nI S.1), S) else if pin < 0 then payC nm cnt rc rk co sh a n ask 0 S else payP nm cnt rc rk co sh a n ask (snd8 nm cnt rc rk co (pinT pin.toNatClampNeg) S)
/-- the reader pays -/
def payA (nm : List Nat) (cnt : Nat → Nat) (rc : Nat → List Nat) (rk : Nat → Nat) (co : Nat) (sh a : Int64) (n pin : Int32) (ask : Nat) (S : R8) : Int32 × R8 := payB nm cnt rc rk co sh a n pin ask (if (opnF nm cnt rc rk co a S).1 = 36864 then rdO nm cnt rc rk co ((opnF nm cnt rc rk co a S).2.1.drop 4) (opnF nm cnt rc rk co a S) else opnF nm cnt rc rk co a S)
theorem entR_le {cnt : Nat → Nat} (hc : ∀ f, f < 4 → cnt f ≤ 3) : ∀ (n f : Nat), f + n ≤ 4 → ∀ b ∈ entR cnt f n, b ≤ 32
  | 0, _, _, b, h => by cases h
  | n + 1, f, hf, b, h => by
    rw [entR] at h
    rcases List.mem_append.mp h with h | h
    · split at h
      · have := hc f (by omega)
        simp only [List.mem_cons, List.not_mem_nil, or_false] at h
        omega
      · cases h
    · exact entR_le hc n (f + 1) (by omega) b h
theorem rdyR_le {cnt : Nat → Nat} (hc : ∀ f, f < 4 → cnt f ≤ 3) (j : Nat) (hj : 4 ≤ j) : (rdyR cnt).getD j 0 ≤ 200 := by
  unfold rdyR
  rw [List.getD_eq_getElem?_getD, List.getElem?_append_right (by simpa using hj)]
  cases h : (entR cnt 0 4)[j - [128, (entR cnt 0 4).length + 2, 24, 0].length]? with
  | none => decide
  | some x =>
    have := entR_le hc 4 0 (by decide) x (List.mem_of_getElem? h)
    show x ≤ 200
    omega
theorem snd_rdy {nm : List Nat} {cnt : Nat → Nat} {rc : Nat → List Nat} {rk : Nat → Nat} {co : Nat} {a : Int64} {S : R8} (h : (snd8 nm cnt rc rk co (rdyT a) S).1 = 36864) : (snd8 nm cnt rc rk co (rdyT a) S).2.1 = rdyR cnt := by
  have hc : cmN (insN (rdyT a)) = 2 := rfl
  revert h
  unfold snd8 sendF
  split
  · next z => intro h; exact absurd h z
  · (try rw [if_neg (by rw [hc]; decide)])
    (try rw [if_pos hc])
    split
    · intro _; rfl
    · intro h; exact absurd (show (27264 : Nat) = 36864 from h) (by decide)
theorem opn_rdy {nm : List Nat} {cnt : Nat → Nat} {rc : Nat → List Nat} {rk : Nat → Nat} {co : Nat} {a : Int64} {S S1 : R8} (hc : ∀ f, f < 4 → cnt f ≤ 3) (hS : S1 = opnF nm cnt rc rk co a S) (h : S1.1 = 36864) : ∀ j, 4 ≤ j → S1.2.1.getD j 0 ≤ 200 := by
  intro j hj
  unfold opnF at hS
  split at hS
  · rw [hS] at h ⊢
    rw [snd_rdy h]
    exact rdyR_le hc j hj
  · next z => rw [hS] at h; exact absurd h z
theorem and63 : ∀ s, s < 65536 → s &&& 65520 = s / 16 * 16 := by
  intro s hs
  apply Nat.eq_of_testBit_eq
  intro i
  rw [Nat.testBit_and, show (65520 : Nat) = 4095 * 2 ^ 4 from rfl, show s / 16 * 16 = s / 2 ^ 4 * 2 ^ 4 from rfl, Nat.testBit_mul_two_pow, Nat.testBit_mul_two_pow]
  by_cases h4 : 4 ≤ i
  · simp only [h4, decide_true, Bool.true_and]
    rw [show (4095 : Nat) = 2 ^ 12 - 1 from rfl, Nat.testBit_two_pow_sub_one, Nat.testBit_div_two_pow, Nat.sub_add_cancel h4]
    by_cases h5 : i - 4 < 12
    · simp [h5]
    · have : s.testBit i = false := Nat.testBit_lt_two_pow (Nat.lt_of_lt_of_le (show s < 2 ^ 16 by omega) (Nat.pow_le_pow_right (by decide) (by omega)))
      simp [this]
  · simp [h4]
theorem genN_lt (rk : Nat → Nat) (r : List Nat) (a : Int64) (n : Int32) (pv : Nat) : genN rk r a n pv < 2 := by unfold genN; split <;> decide
theorem t_pay157 {L : Nat} {xs : Nat → Int32} {Post : Option Value → mHeap → Prop} {li nm : List Nat} {cnt : Nat → Nat} {rc : Nat → List Nat} {rk : Nat → Nat} {co : Nat} {tl h : mHeap} {sh a : Int64} {n pin : Int32} {ask : Nat} {S : R8} {good : Nat} {w8 w10 : Option Value} (hW : CWl li [] S.2.1 nm cnt rc rk co S.2.2.1 S.2.2.2.1 S.2.2.2.2.1 S.2.2.2.2.2.1 S.2.2.2.2.2.2.1 S.2.2.2.2.2.2.2 tl h) (hA : AI [] S.2.1 nm cnt rc rk co S.2.2.1 S.2.2.2.1 S.2.2.2.2.1 S.2.2.2.2.2.1 S.2.2.2.2.2.2.1 S.2.2.2.2.2.2.2) (hg : good < 2) (hs : S.1 = 36864) (kP : ∀ h', CW [] (payD nm cnt rc rk co sh a n good S).2.2.1 nm cnt rc rk co (payD nm cnt rc rk co sh a n good S).2.2.2.1 (payD nm cnt rc rk co sh a n good S).2.2.2.2.1 (payD nm cnt rc rk co sh a n good S).2.2.2.2.2.1 (payD nm cnt rc rk co sh a n good S).2.2.2.2.2.2.1 (payD nm cnt rc rk co sh a n good S).2.2.2.2.2.2.2.1 (payD nm cnt rc rk co sh a n good S).2.2.2.2.2.2.2.2 tl h' → Post (some (.int (payD nm cnt rc rk co sh a n good S).1)) h') : mGo M_Pur_pay L xs (7, 187) 0 0 Post 0 0 157 [some (.ref 0), some (.long sh), none, some (.long a), none, some (.int n), some (.int pin), some (.int (nI ask)), w8, some (.int (nI good)), w10] [] h := by
  refine mj_aload_n d_Pur_pay_157 rfl ?_
  refine mj_virtual (d' := (2, 50)) (mc := 0) (ms := 0) (As := []) d_Pur_pay_158 cw_Pur_givenByCard q_449 q_451 qs_Pur_givenByCard (ci := 5) rfl (cw0 hW) rfl rfl (mRoomB rfl) ?_
  refine s_Pur_givenByCard hA hW (fun h1 hW1 => ?_)
  refine mj_bipush d_Pur_pay_161 (nI 64) (by decide) ?_
  refine mj_icmpne d_Pur_pay_163 168 rfl (fun c_163 => ?_) (fun c_163 => ?_)
  · refine mj_aload_n d_Pur_pay_168 rfl ?_
    refine mj_virtual (d' := (2, 50)) (mc := 0) (ms := 0) (As := []) d_Pur_pay_169 cw_Pur_givenByCard q_449 q_451 qs_Pur_givenByCard (ci := 5) rfl (cw0 hW1) rfl rfl (mRoomB rfl) ?_
    refine s_Pur_givenByCard hA hW1 (fun h2 hW2 => ?_)
    refine mj_sipush d_Pur_pay_172 (nI 128) (by decide) ?_
    refine mj_icmpeq d_Pur_pay_175 180 rfl (fun c_175 => ?_) (fun c_175 => ?_)
    · refine mj_aload_n d_Pur_pay_180 rfl ?_
      refine mj_lload_n d_Pur_pay_181 rfl ?_
      refine mj_iload d_Pur_pay_182 rfl ?_
      refine mj_iload d_Pur_pay_184 rfl ?_
      refine mj_virtual (d' := (4, 111)) (mc := 0) (ms := 0) (As := [_, _, _]) d_Pur_pay_186 cw_Pur_genuine q_453 q_402 q_403 (ci := 5) rfl (cw0 hW2) rfl rfl (mRoomB rfl) ?_
      refine s_Pur_genuine hA hW2 hg (fun h3 hW3 => ?_)
      have hag := genN_lt rk S.2.1 sh n good
      have e0 : payD nm cnt rc rk co sh a n good S = payE (snd8 nm cnt rc rk co (agT (genN rk S.2.1 sh n good) a n) S) := by unfold payD; rw [if_neg (Decidable.not_not.mpr hs), if_neg c_163, if_neg (Decidable.not_not.mpr c_175)]
      rw [e0] at kP
      generalize genN rk S.2.1 sh n good = ag at *
      refine mj_istore d_Pur_pay_189 (by decide) ?_
      dsimp only [mSt1, mSt2, mKill, Nat.reduceAdd]
      refine mj_aload_n d_Pur_pay_191 rfl ?_
      refine mj_iload d_Pur_pay_192 rfl ?_
      refine mj_ifeqN d_Pur_pay_194 202 rfl (by omega) (fun c_194 => ?_) (fun c_194 => ?_)
      · refine mj_iconst d_Pur_pay_202 (nI 0) (by decide) ?_
        refine mj_lload_n d_Pur_pay_203 rfl ?_
        refine mj_iload d_Pur_pay_204 rfl ?_
        refine mj_bipush d_Pur_pay_206 (nI 12) (by decide) ?_
        refine mj_virtual (d' := (3, 69)) (mc := 0) (ms := 0) (As := [_, _, _, _]) d_Pur_pay_208 cw_Pur_typeSeal q_444 q_446 qs_Pur_typeSeal (ci := 5) rfl (cw0 hW3) rfl rfl (mRoomB rfl) ?_
        refine s_Pur_typeSeal hA hW3 (by decide) (by decide) (fun h4 hW4 => ?_)
        have hA4 := AI_t hA (slT_Bb (w := 0) (c := 12) (a := a) (n := n) (by decide) (by decide)) (Nat.le_trans (slT_len _ a n 12) (by decide))
        obtain ⟨tf, hr⟩ := cw1 hA4 hW4
        have hsl := hr.2.2.2.1
        have hW := hW4
        refine mj_aload_n d_Pur_pay_211 rfl ?_
        refine mj_get d_Pur_pay_212 fd_Pur_14 (cw0 hW) rfl ?_
        refine mj_bipush d_Pur_pay_215 (nI 48) (by decide) ?_
        refine mj_virtual (d' := (0, 0)) (mc := 0) (ms := 0) (As := [_]) d_Pur_pay_217 cw_Row_add q_198 q_137 q_138 (ci := 0) rfl hr.1 rfl rfl (mRoomB rfl) ?_
        refine s_Row_add hr (fun z => by have := slT_len 64 a n 12; have := slT_len 0 a n 12; omega) (fun _ g1 hg1 => ?_)
        have q1 := RA_put hr hg1 (by have := slT_len 64 a n 12; have := slT_len 0 a n 12; simp; omega)
        refine mj_pop d_Pur_pay_220 rfl ?_
        refine mj_aload_n d_Pur_pay_221 rfl ?_
        refine mj_get d_Pur_pay_222 fd_Pur_14 ((rPut_get (by decide) (by decide)).trans (cw0 hW)) rfl ?_
        refine mj_iload d_Pur_pay_225 rfl ?_
        refine mj_ifeqN d_Pur_pay_227 235 rfl (by omega) (fun c_227 => ?_) (fun c_227 => ?_)
        · refine mj_bipush d_Pur_pay_235 (nI 53) (by decide) ?_
          refine mj_virtual (d' := (0, 0)) (mc := 0) (ms := 0) (As := [_]) d_Pur_pay_237 cw_Row_add q_198 q_137 q_138 (ci := 0) rfl q1.1 rfl rfl (mRoomB rfl) ?_
          refine s_Row_add q1 (fun z => by have := slT_len 64 a n 12; have := slT_len 0 a n 12; simp at z; omega) (fun _ g2 hg2 => ?_)
          rw [rPut_rPut (by decide), List.append_assoc]
          rw [List.append_assoc] at hg2
          have hW5 := cwt hW4 hg2
          have hA5 := AI_t hA4 (Bb_app (slT_Bb (w := 0) (c := 12) (a := a) (n := n) (by decide) (by decide)) (Bb_cons (a := 48) (by decide) (Bb_cons (a := 53) (by decide) Bb_nil))) (by have := slT_len 64 a n 12; have := slT_len 0 a n 12; simp; omega)
          refine mj_pop d_Pur_pay_240 rfl ?_
          refine mj_aload_n d_Pur_pay_241 rfl ?_
          refine mj_get d_Pur_pay_242 fd_Pur_34 (cw0 hW5) rfl ?_
          refine mj_aload_n d_Pur_pay_245 rfl ?_
          refine mj_get d_Pur_pay_246 fd_Pur_14 (cw0 hW5) rfl ?_
          refine mj_aload_n d_Pur_pay_249 rfl ?_
          refine mj_get d_Pur_pay_250 fd_Pur_18 (cw0 hW5) rfl ?_
          refine mj_virtual (d' := (5, 141)) (mc := 0) (ms := 0) (As := [_, _]) d_Pur_pay_253 cw_Crd_obey q_215 q_216 q_217 (ci := 4) rfl (cw9 hW5) rfl rfl (mRoomB rfl) ?_
          refine c_obey hA5 hW5 (fun S5 h6 hS5 hW6 hA6 hl6 => ?_)
          first
            | omega
            | skip
          have e1 : snd8 nm cnt rc rk co (agT ag a n) S = S5 := by
            unfold agT
            first
              | (rw [if_pos (by omega), if_pos (by omega)]; exact hS5.symm)
              | (rw [if_neg (by omega), if_neg (by omega)]; exact hS5.symm)
          rw [e1] at kP
          refine mj_istore d_Pur_pay_256 (by decide) ?_
          dsimp only [mSt1, mSt2, mKill, Nat.reduceAdd]
          refine mj_iload d_Pur_pay_258 rfl ?_
          refine mj_ldc d_Pur_pay_260 (nI 36864) q_432 ?_
          refine mj_icmpeqN d_Pur_pay_262 269 rfl (by omega) (fun c_262 => ?_) (fun c_262 => ?_)
          · refine mj_aload_n d_Pur_pay_269 rfl ?_
            refine mj_virtual (d' := (2, 50)) (mc := 0) (ms := 0) (As := []) d_Pur_pay_270 cw_Pur_givenByCard q_449 q_451 qs_Pur_givenByCard (ci := 5) rfl (cw0 hW6) rfl rfl (mRoomB rfl) ?_
            refine s_Pur_givenByCard hA6 hW6 (fun h7 hW7 => ?_)
            refine mj_bipush d_Pur_pay_273 (nI 64) (by decide) ?_
            refine mj_icmpne d_Pur_pay_275 282 rfl (fun c_275 => ?_) (fun c_275 => ?_)
            · refine mj_iconst d_Pur_pay_282 (nI 0) (by decide) ?_
              refine mj_iret d_Pur_pay_283 rfl rfl (Nat.le_refl _) (Nat.le_refl _) ?_
              unfold payE at kP
              rw [if_neg (Decidable.not_not.mpr c_262)] at kP
              first
                | (rw [if_pos c_275] at kP; exact kP h7 (CW_l hW7))
                | (rw [if_neg c_275] at kP; exact kP h7 (CW_l hW7))
            · refine mj_iconst d_Pur_pay_278 (nI 2) (by decide) ?_
              refine mj_goto d_Pur_pay_279 283 rfl ?_
              refine mj_iret d_Pur_pay_283 rfl rfl (Nat.le_refl _) (Nat.le_refl _) ?_
              unfold payE at kP
              rw [if_neg (Decidable.not_not.mpr c_262)] at kP
              first
                | (rw [if_pos c_275] at kP; exact kP h7 (CW_l hW7))
                | (rw [if_neg c_275] at kP; exact kP h7 (CW_l hW7))
          · refine mj_iload d_Pur_pay_265 rfl ?_
            refine mj_ineg d_Pur_pay_267 ?_
            refine mj_iret d_Pur_pay_268 rfl rfl (Nat.le_refl _) (Nat.le_refl _) ?_
            have e : payE S5 = (-(nI S5.1), S5) := by unfold payE; rw [if_pos c_262]
            rw [e] at kP
            exact kP h6 (CW_l hW6)
        · omega
      · refine mj_bipush d_Pur_pay_197 (nI 64) (by decide) ?_
        refine mj_goto d_Pur_pay_199 203 rfl ?_
        refine mj_lload_n d_Pur_pay_203 rfl ?_
        refine mj_iload d_Pur_pay_204 rfl ?_
        refine mj_bipush d_Pur_pay_206 (nI 12) (by decide) ?_
        refine mj_virtual (d' := (3, 69)) (mc := 0) (ms := 0) (As := [_, _, _, _]) d_Pur_pay_208 cw_Pur_typeSeal q_444 q_446 qs_Pur_typeSeal (ci := 5) rfl (cw0 hW3) rfl rfl (mRoomB rfl) ?_
        refine s_Pur_typeSeal hA hW3 (by decide) (by decide) (fun h4 hW4 => ?_)
        have hA4 := AI_t hA (slT_Bb (w := 64) (c := 12) (a := a) (n := n) (by decide) (by decide)) (Nat.le_trans (slT_len _ a n 12) (by decide))
        obtain ⟨tf, hr⟩ := cw1 hA4 hW4
        have hsl := hr.2.2.2.1
        have hW := hW4
        refine mj_aload_n d_Pur_pay_211 rfl ?_
        refine mj_get d_Pur_pay_212 fd_Pur_14 (cw0 hW) rfl ?_
        refine mj_bipush d_Pur_pay_215 (nI 48) (by decide) ?_
        refine mj_virtual (d' := (0, 0)) (mc := 0) (ms := 0) (As := [_]) d_Pur_pay_217 cw_Row_add q_198 q_137 q_138 (ci := 0) rfl hr.1 rfl rfl (mRoomB rfl) ?_
        refine s_Row_add hr (fun z => by have := slT_len 64 a n 12; have := slT_len 0 a n 12; omega) (fun _ g1 hg1 => ?_)
        have q1 := RA_put hr hg1 (by have := slT_len 64 a n 12; have := slT_len 0 a n 12; simp; omega)
        refine mj_pop d_Pur_pay_220 rfl ?_
        refine mj_aload_n d_Pur_pay_221 rfl ?_
        refine mj_get d_Pur_pay_222 fd_Pur_14 ((rPut_get (by decide) (by decide)).trans (cw0 hW)) rfl ?_
        refine mj_iload d_Pur_pay_225 rfl ?_
        refine mj_ifeqN d_Pur_pay_227 235 rfl (by omega) (fun c_227 => ?_) (fun c_227 => ?_)
        · omega
        · refine mj_bipush d_Pur_pay_230 (nI 48) (by decide) ?_
          refine mj_goto d_Pur_pay_232 237 rfl ?_
          refine mj_virtual (d' := (0, 0)) (mc := 0) (ms := 0) (As := [_]) d_Pur_pay_237 cw_Row_add q_198 q_137 q_138 (ci := 0) rfl q1.1 rfl rfl (mRoomB rfl) ?_
          refine s_Row_add q1 (fun z => by have := slT_len 64 a n 12; have := slT_len 0 a n 12; simp at z; omega) (fun _ g2 hg2 => ?_)
          rw [rPut_rPut (by decide), List.append_assoc]
          rw [List.append_assoc] at hg2
          have hW5 := cwt hW4 hg2
          have hA5 := AI_t hA4 (Bb_app (slT_Bb (w := 64) (c := 12) (a := a) (n := n) (by decide) (by decide)) (Bb_cons (a := 48) (by decide) (Bb_cons (a := 48) (by decide) Bb_nil))) (by have := slT_len 64 a n 12; have := slT_len 0 a n 12; simp; omega)
          refine mj_pop d_Pur_pay_240 rfl ?_
          refine mj_aload_n d_Pur_pay_241 rfl ?_
          refine mj_get d_Pur_pay_242 fd_Pur_34 (cw0 hW5) rfl ?_
          refine mj_aload_n d_Pur_pay_245 rfl ?_
          refine mj_get d_Pur_pay_246 fd_Pur_14 (cw0 hW5) rfl ?_
          refine mj_aload_n d_Pur_pay_249 rfl ?_
          refine mj_get d_Pur_pay_250 fd_Pur_18 (cw0 hW5) rfl ?_
          refine mj_virtual (d' := (5, 141)) (mc := 0) (ms := 0) (As := [_, _]) d_Pur_pay_253 cw_Crd_obey q_215 q_216 q_217 (ci := 4) rfl (cw9 hW5) rfl rfl (mRoomB rfl) ?_
          refine c_obey hA5 hW5 (fun S5 h6 hS5 hW6 hA6 hl6 => ?_)
          first
            | omega
            | skip
          have e1 : snd8 nm cnt rc rk co (agT ag a n) S = S5 := by
            unfold agT
            first
              | (rw [if_pos (by omega), if_pos (by omega)]; exact hS5.symm)
              | (rw [if_neg (by omega), if_neg (by omega)]; exact hS5.symm)
          rw [e1] at kP
          refine mj_istore d_Pur_pay_256 (by decide) ?_
          dsimp only [mSt1, mSt2, mKill, Nat.reduceAdd]
          refine mj_iload d_Pur_pay_258 rfl ?_
          refine mj_ldc d_Pur_pay_260 (nI 36864) q_432 ?_
          refine mj_icmpeqN d_Pur_pay_262 269 rfl (by omega) (fun c_262 => ?_) (fun c_262 => ?_)
          · refine mj_aload_n d_Pur_pay_269 rfl ?_
            refine mj_virtual (d' := (2, 50)) (mc := 0) (ms := 0) (As := []) d_Pur_pay_270 cw_Pur_givenByCard q_449 q_451 qs_Pur_givenByCard (ci := 5) rfl (cw0 hW6) rfl rfl (mRoomB rfl) ?_
            refine s_Pur_givenByCard hA6 hW6 (fun h7 hW7 => ?_)
            refine mj_bipush d_Pur_pay_273 (nI 64) (by decide) ?_
            refine mj_icmpne d_Pur_pay_275 282 rfl (fun c_275 => ?_) (fun c_275 => ?_)
            · refine mj_iconst d_Pur_pay_282 (nI 0) (by decide) ?_
              refine mj_iret d_Pur_pay_283 rfl rfl (Nat.le_refl _) (Nat.le_refl _) ?_
              unfold payE at kP
              rw [if_neg (Decidable.not_not.mpr c_262)] at kP
              first
                | (rw [if_pos c_275] at kP; exact kP h7 (CW_l hW7))
                | (rw [if_neg c_275] at kP; exact kP h7 (CW_l hW7))
            · refine mj_iconst d_Pur_pay_278 (nI 2) (by decide) ?_
              refine mj_goto d_Pur_pay_279 283 rfl ?_
              refine mj_iret d_Pur_pay_283 rfl rfl (Nat.le_refl _) (Nat.le_refl _) ?_
              unfold payE at kP
              rw [if_neg (Decidable.not_not.mpr c_262)] at kP
              first
                | (rw [if_pos c_275] at kP; exact kP h7 (CW_l hW7))
                | (rw [if_neg c_275] at kP; exact kP h7 (CW_l hW7))
          · refine mj_iload d_Pur_pay_265 rfl ?_
            refine mj_ineg d_Pur_pay_267 ?_
            refine mj_iret d_Pur_pay_268 rfl rfl (Nat.le_refl _) (Nat.le_refl _) ?_
            have e : payE S5 = (-(nI S5.1), S5) := by unfold payE; rw [if_pos c_262]
            rw [e] at kP
            exact kP h6 (CW_l hW6)
    · refine mj_iconst d_Pur_pay_178 (nI 0) (by decide) ?_
      refine mj_iret d_Pur_pay_179 rfl rfl (Nat.le_refl _) (Nat.le_refl _) ?_
      have e : payD nm cnt rc rk co sh a n good S = (nI 0, S) := by unfold payD; rw [if_neg (Decidable.not_not.mpr hs), if_neg c_163, if_pos c_175]
      rw [e] at kP
      exact kP h2 (CW_l hW2)
  · refine mj_iconst d_Pur_pay_166 (nI 1) (by decide) ?_
    refine mj_iret d_Pur_pay_167 rfl rfl (Nat.le_refl _) (Nat.le_refl _) ?_
    have e : payD nm cnt rc rk co sh a n good S = (nI 1, S) := by unfold payD; rw [if_neg (Decidable.not_not.mpr hs), if_pos c_163]
    rw [e] at kP
    exact kP h1 (CW_l hW1)
theorem t_pay107 {L : Nat} {xs : Nat → Int32} {Post : Option Value → mHeap → Prop} {li nm : List Nat} {cnt : Nat → Nat} {rc : Nat → List Nat} {rk : Nat → Nat} {co : Nat} {tl h : mHeap} {sh a : Int64} {n pin : Int32} {ask : Nat} {S : R8} {good : Nat} {w8 w10 : Option Value} (hW : CWl li [] S.2.1 nm cnt rc rk co S.2.2.1 S.2.2.2.1 S.2.2.2.2.1 S.2.2.2.2.2.1 S.2.2.2.2.2.2.1 S.2.2.2.2.2.2.2 tl h) (hA : AI [] S.2.1 nm cnt rc rk co S.2.2.1 S.2.2.2.1 S.2.2.2.2.1 S.2.2.2.2.2.1 S.2.2.2.2.2.2.1 S.2.2.2.2.2.2.2) (hg : good < 2) (hask : ask < 2) (kP : ∀ h', CW [] (payC nm cnt rc rk co sh a n ask good S).2.2.1 nm cnt rc rk co (payC nm cnt rc rk co sh a n ask good S).2.2.2.1 (payC nm cnt rc rk co sh a n ask good S).2.2.2.2.1 (payC nm cnt rc rk co sh a n ask good S).2.2.2.2.2.1 (payC nm cnt rc rk co sh a n ask good S).2.2.2.2.2.2.1 (payC nm cnt rc rk co sh a n ask good S).2.2.2.2.2.2.2.1 (payC nm cnt rc rk co sh a n ask good S).2.2.2.2.2.2.2.2 tl h' → Post (some (.int (payC nm cnt rc rk co sh a n ask good S).1)) h') : mGo M_Pur_pay L xs (7, 187) 0 0 Post 0 0 107 [some (.ref 0), some (.long sh), none, some (.long a), none, some (.int n), some (.int pin), some (.int (nI ask)), w8, some (.int (nI good)), w10] [] h := by
  refine mj_aload_n d_Pur_pay_107 rfl ?_
  refine mj_iload d_Pur_pay_108 rfl ?_
  refine mj_ifeqN d_Pur_pay_110 119 rfl (by omega) (fun c_110 => ?_) (fun c_110 => ?_)
  · refine mj_bipush d_Pur_pay_119 (nI 64) (by decide) ?_
    refine mj_lload_n d_Pur_pay_121 rfl ?_
    refine mj_iload d_Pur_pay_122 rfl ?_
    refine mj_bipush d_Pur_pay_124 (nI 10) (by decide) ?_
    refine mj_virtual (d' := (3, 69)) (mc := 0) (ms := 0) (As := [_, _, _, _]) d_Pur_pay_126 cw_Pur_typeSeal q_444 q_446 qs_Pur_typeSeal (ci := 5) rfl (cw0 hW) rfl rfl (mRoomB rfl) ?_
    refine s_Pur_typeSeal hA hW (by decide) (by decide) (fun h1 hW1 => ?_)
    have hA1 := AI_t hA (slT_Bb (w := 64) (c := 10) (a := a) (n := n) (by decide) (by decide)) (Nat.le_trans (slT_len _ a n 10) (by decide))
    refine mj_aload_n d_Pur_pay_129 rfl ?_
    refine mj_get d_Pur_pay_130 fd_Pur_34 (cw0 hW1) rfl ?_
    refine mj_aload_n d_Pur_pay_133 rfl ?_
    refine mj_get d_Pur_pay_134 fd_Pur_14 (cw0 hW1) rfl ?_
    refine mj_aload_n d_Pur_pay_137 rfl ?_
    refine mj_get d_Pur_pay_138 fd_Pur_18 (cw0 hW1) rfl ?_
    refine mj_virtual (d' := (5, 141)) (mc := 0) (ms := 0) (As := [_, _]) d_Pur_pay_141 cw_Crd_obey q_215 q_216 q_217 (ci := 4) rfl (cw9 hW1) rfl rfl (mRoomB rfl) ?_
    refine c_obey hA1 hW1 (fun S4 h4 hS4 hW4 hA4 hl4 => ?_)
    have e1 : payC nm cnt rc rk co sh a n ask good S = payD nm cnt rc rk co sh a n good S4 := by unfold payC; rw [if_pos c_110]; exact congrArg _ hS4.symm
    rw [e1] at kP
    refine mj_istore d_Pur_pay_144 (by decide) ?_
    dsimp only [mSt1, mSt2, mKill, Nat.reduceAdd]
    refine mj_iload d_Pur_pay_146 rfl ?_
    refine mj_ldc d_Pur_pay_148 (nI 36864) q_432 ?_
    refine mj_icmpeqN d_Pur_pay_150 157 rfl (by omega) (fun c_150 => ?_) (fun c_150 => ?_)
    · exact t_pay157 hW4 hA4 hg c_150 kP
    · refine mj_iload d_Pur_pay_153 rfl ?_
      refine mj_ineg d_Pur_pay_155 ?_
      refine mj_iret d_Pur_pay_156 rfl rfl (Nat.le_refl _) (Nat.le_refl _) ?_
      have e : payD nm cnt rc rk co sh a n good S4 = (-(nI S4.1), S4) := by unfold payD; rw [if_pos c_150]
      rw [e] at kP
      exact kP h4 (CW_l hW4)
  · refine mj_sipush d_Pur_pay_113 (nI 128) (by decide) ?_
    refine mj_goto d_Pur_pay_116 121 rfl ?_
    refine mj_lload_n d_Pur_pay_121 rfl ?_
    refine mj_iload d_Pur_pay_122 rfl ?_
    refine mj_bipush d_Pur_pay_124 (nI 10) (by decide) ?_
    refine mj_virtual (d' := (3, 69)) (mc := 0) (ms := 0) (As := [_, _, _, _]) d_Pur_pay_126 cw_Pur_typeSeal q_444 q_446 qs_Pur_typeSeal (ci := 5) rfl (cw0 hW) rfl rfl (mRoomB rfl) ?_
    refine s_Pur_typeSeal hA hW (by decide) (by decide) (fun h1 hW1 => ?_)
    have hA1 := AI_t hA (slT_Bb (w := 128) (c := 10) (a := a) (n := n) (by decide) (by decide)) (Nat.le_trans (slT_len _ a n 10) (by decide))
    refine mj_aload_n d_Pur_pay_129 rfl ?_
    refine mj_get d_Pur_pay_130 fd_Pur_34 (cw0 hW1) rfl ?_
    refine mj_aload_n d_Pur_pay_133 rfl ?_
    refine mj_get d_Pur_pay_134 fd_Pur_14 (cw0 hW1) rfl ?_
    refine mj_aload_n d_Pur_pay_137 rfl ?_
    refine mj_get d_Pur_pay_138 fd_Pur_18 (cw0 hW1) rfl ?_
    refine mj_virtual (d' := (5, 141)) (mc := 0) (ms := 0) (As := [_, _]) d_Pur_pay_141 cw_Crd_obey q_215 q_216 q_217 (ci := 4) rfl (cw9 hW1) rfl rfl (mRoomB rfl) ?_
    refine c_obey hA1 hW1 (fun S4 h4 hS4 hW4 hA4 hl4 => ?_)
    have e1 : payC nm cnt rc rk co sh a n ask good S = payD nm cnt rc rk co sh a n good S4 := by unfold payC; rw [if_neg c_110]; exact congrArg _ hS4.symm
    rw [e1] at kP
    refine mj_istore d_Pur_pay_144 (by decide) ?_
    dsimp only [mSt1, mSt2, mKill, Nat.reduceAdd]
    refine mj_iload d_Pur_pay_146 rfl ?_
    refine mj_ldc d_Pur_pay_148 (nI 36864) q_432 ?_
    refine mj_icmpeqN d_Pur_pay_150 157 rfl (by omega) (fun c_150 => ?_) (fun c_150 => ?_)
    · exact t_pay157 hW4 hA4 hg c_150 kP
    · refine mj_iload d_Pur_pay_153 rfl ?_
      refine mj_ineg d_Pur_pay_155 ?_
      refine mj_iret d_Pur_pay_156 rfl rfl (Nat.le_refl _) (Nat.le_refl _) ?_
      have e : payD nm cnt rc rk co sh a n good S4 = (-(nI S4.1), S4) := by unfold payD; rw [if_pos c_150]
      rw [e] at kP
      exact kP h4 (CW_l hW4)
theorem t_pay44 {L : Nat} {xs : Nat → Int32} {Post : Option Value → mHeap → Prop} {li nm : List Nat} {cnt : Nat → Nat} {rc : Nat → List Nat} {rk : Nat → Nat} {co : Nat} {tl h : mHeap} {sh a : Int64} {n pin : Int32} {ask : Nat} {S : R8} {w9 w10 : Option Value} (hW : CWl li [] S.2.1 nm cnt rc rk co S.2.2.1 S.2.2.2.1 S.2.2.2.2.1 S.2.2.2.2.2.1 S.2.2.2.2.2.2.1 S.2.2.2.2.2.2.2 tl h) (hA : AI [] S.2.1 nm cnt rc rk co S.2.2.1 S.2.2.2.1 S.2.2.2.2.1 S.2.2.2.2.2.1 S.2.2.2.2.2.2.1 S.2.2.2.2.2.2.2) (hl : S.1 < 65536) (hask : ask < 2) (hpin : pin ≤ nI 9999) (kP : ∀ h', CW [] (payB nm cnt rc rk co sh a n pin ask S).2.2.1 nm cnt rc rk co (payB nm cnt rc rk co sh a n pin ask S).2.2.2.1 (payB nm cnt rc rk co sh a n pin ask S).2.2.2.2.1 (payB nm cnt rc rk co sh a n pin ask S).2.2.2.2.2.1 (payB nm cnt rc rk co sh a n pin ask S).2.2.2.2.2.2.1 (payB nm cnt rc rk co sh a n pin ask S).2.2.2.2.2.2.2.1 (payB nm cnt rc rk co sh a n pin ask S).2.2.2.2.2.2.2.2 tl h' → Post (some (.int (payB nm cnt rc rk co sh a n pin ask S).1)) h') : mGo M_Pur_pay L xs (7, 187) 0 0 Post 0 0 44 [some (.ref 0), some (.long sh), none, some (.long a), none, some (.int n), some (.int pin), some (.int (nI ask)), some (.int (nI S.1)), w9, w10] [] h := by
  refine mj_iload d_Pur_pay_44 rfl ?_
  refine mj_ldc d_Pur_pay_46 (nI 36864) q_432 ?_
  refine mj_icmpeqN d_Pur_pay_48 55 rfl (by omega) (fun c_48 => ?_) (fun c_48 => ?_)
  · refine mj_iconst d_Pur_pay_55 (nI 0) (by decide) ?_
    refine mj_istore d_Pur_pay_56 (by decide) ?_
    dsimp only [mSt1, mSt2, mKill, Nat.reduceAdd]
    refine mj_iload d_Pur_pay_58 rfl ?_
    refine mj_iflt d_Pur_pay_60 107 rfl (fun c_60 => ?_) (fun c_60 => ?_)
    · first
        | omega
        | (have e : payB nm cnt rc rk co sh a n pin ask S = payC nm cnt rc rk co sh a n ask 0 S := by unfold payB; rw [if_neg (Decidable.not_not.mpr c_48), if_pos c_60]
           rw [e] at kP
           exact t_pay107 hW hA (by decide) hask kP)
        | (have e : payP nm cnt rc rk co sh a n ask S3 = payC nm cnt rc rk co sh a n ask 1 S3 := by unfold payP; rw [if_neg (by omega), if_pos c_97]
           rw [e] at kP
           exact t_pay107 hW3 hA3 (by decide) hask kP)
        | (have e : payP nm cnt rc rk co sh a n ask S3 = payC nm cnt rc rk co sh a n ask 0 S3 := by unfold payP; rw [if_neg (by omega), if_neg c_97]
           rw [e] at kP
           exact t_pay107 hW3 hA3 (by decide) hask kP)
    · obtain ⟨p, hp, rfl⟩ := nI_of c_60
      have hp9 := (nI_leI hp (by decide)).mp hpin
      have e0 : payB nm cnt rc rk co sh a n (nI p) ask S = payP nm cnt rc rk co sh a n ask (snd8 nm cnt rc rk co (pinT p) S) := by unfold payB; rw [if_neg (Decidable.not_not.mpr c_48), if_neg c_60, nI_clamp hp]
      rw [e0] at kP
      refine mj_aload_n d_Pur_pay_63 rfl ?_
      refine mj_iload d_Pur_pay_64 rfl ?_
      refine mj_virtual (d' := (6, 164)) (mc := 0) (ms := 0) (As := [_]) d_Pur_pay_66 cw_Pur_provePin q_439 q_441 qs_Pur_provePin (ci := 5) rfl (cw0 hW) rfl rfl (mRoomB rfl) ?_
      refine s_Pur_provePin hA hW hp9 (fun S3 h3 hS3 hW3 hA3 hl3 => ?_)
      have e1 : snd8 nm cnt rc rk co (pinT p) S = S3 := hS3.symm
      rw [e1] at kP
      refine mj_istore d_Pur_pay_69 (by decide) ?_
      dsimp only [mSt1, mSt2, mKill, Nat.reduceAdd]
      refine mj_iload d_Pur_pay_71 rfl ?_
      refine mj_ldc d_Pur_pay_73 (nI 36864) q_432 ?_
      refine mj_icmpeqN d_Pur_pay_75 93 rfl (by omega) (fun c_75 => ?_) (fun c_75 => ?_)
      · refine mj_iload d_Pur_pay_93 rfl ?_
        refine mj_ldc d_Pur_pay_95 (nI 36864) q_432 ?_
        refine mj_icmpneN d_Pur_pay_97 104 rfl (by omega) (fun c_97 => ?_) (fun c_97 => ?_)
        · refine mj_iconst d_Pur_pay_104 (nI 0) (by decide) ?_
          refine mj_istore d_Pur_pay_105 (by decide) ?_
          dsimp only [mSt1, mSt2, mKill, Nat.reduceAdd]
          first
            | omega
            | (have e : payB nm cnt rc rk co sh a n pin ask S = payC nm cnt rc rk co sh a n ask 0 S := by unfold payB; rw [if_neg (Decidable.not_not.mpr c_48), if_pos c_60]
               rw [e] at kP
               exact t_pay107 hW hA (by decide) hask kP)
            | (have e : payP nm cnt rc rk co sh a n ask S3 = payC nm cnt rc rk co sh a n ask 1 S3 := by unfold payP; rw [if_neg (by omega), if_pos c_97]
               rw [e] at kP
               exact t_pay107 hW3 hA3 (by decide) hask kP)
            | (have e : payP nm cnt rc rk co sh a n ask S3 = payC nm cnt rc rk co sh a n ask 0 S3 := by unfold payP; rw [if_neg (by omega), if_neg c_97]
               rw [e] at kP
               exact t_pay107 hW3 hA3 (by decide) hask kP)
        · refine mj_iconst d_Pur_pay_100 (nI 1) (by decide) ?_
          refine mj_goto d_Pur_pay_101 105 rfl ?_
          refine mj_istore d_Pur_pay_105 (by decide) ?_
          dsimp only [mSt1, mSt2, mKill, Nat.reduceAdd]
          first
            | omega
            | (have e : payB nm cnt rc rk co sh a n pin ask S = payC nm cnt rc rk co sh a n ask 0 S := by unfold payB; rw [if_neg (Decidable.not_not.mpr c_48), if_pos c_60]
               rw [e] at kP
               exact t_pay107 hW hA (by decide) hask kP)
            | (have e : payP nm cnt rc rk co sh a n ask S3 = payC nm cnt rc rk co sh a n ask 1 S3 := by unfold payP; rw [if_neg (by omega), if_pos c_97]
               rw [e] at kP
               exact t_pay107 hW3 hA3 (by decide) hask kP)
            | (have e : payP nm cnt rc rk co sh a n ask S3 = payC nm cnt rc rk co sh a n ask 0 S3 := by unfold payP; rw [if_neg (by omega), if_neg c_97]
               rw [e] at kP
               exact t_pay107 hW3 hA3 (by decide) hask kP)
      · refine mj_iload d_Pur_pay_78 rfl ?_
        refine mj_ldc d_Pur_pay_80 (nI 65520) q_443 ?_
        refine mj_iand d_Pur_pay_82 ?_
        rw [nI_and, and63 _ hl3]
        refine mj_sipush d_Pur_pay_83 (nI 25536) (by decide) ?_
        refine mj_icmpeqN d_Pur_pay_86 93 rfl (by omega) (fun c_86 => ?_) (fun c_86 => ?_)
        · refine mj_iload d_Pur_pay_93 rfl ?_
          refine mj_ldc d_Pur_pay_95 (nI 36864) q_432 ?_
          refine mj_icmpneN d_Pur_pay_97 104 rfl (by omega) (fun c_97 => ?_) (fun c_97 => ?_)
          · refine mj_iconst d_Pur_pay_104 (nI 0) (by decide) ?_
            refine mj_istore d_Pur_pay_105 (by decide) ?_
            dsimp only [mSt1, mSt2, mKill, Nat.reduceAdd]
            first
              | omega
              | (have e : payB nm cnt rc rk co sh a n pin ask S = payC nm cnt rc rk co sh a n ask 0 S := by unfold payB; rw [if_neg (Decidable.not_not.mpr c_48), if_pos c_60]
                 rw [e] at kP
                 exact t_pay107 hW hA (by decide) hask kP)
              | (have e : payP nm cnt rc rk co sh a n ask S3 = payC nm cnt rc rk co sh a n ask 1 S3 := by unfold payP; rw [if_neg (by omega), if_pos c_97]
                 rw [e] at kP
                 exact t_pay107 hW3 hA3 (by decide) hask kP)
              | (have e : payP nm cnt rc rk co sh a n ask S3 = payC nm cnt rc rk co sh a n ask 0 S3 := by unfold payP; rw [if_neg (by omega), if_neg c_97]
                 rw [e] at kP
                 exact t_pay107 hW3 hA3 (by decide) hask kP)
          · refine mj_iconst d_Pur_pay_100 (nI 1) (by decide) ?_
            refine mj_goto d_Pur_pay_101 105 rfl ?_
            refine mj_istore d_Pur_pay_105 (by decide) ?_
            dsimp only [mSt1, mSt2, mKill, Nat.reduceAdd]
            first
              | omega
              | (have e : payB nm cnt rc rk co sh a n pin ask S = payC nm cnt rc rk co sh a n ask 0 S := by unfold payB; rw [if_neg (Decidable.not_not.mpr c_48), if_pos c_60]
                 rw [e] at kP
                 exact t_pay107 hW hA (by decide) hask kP)
              | (have e : payP nm cnt rc rk co sh a n ask S3 = payC nm cnt rc rk co sh a n ask 1 S3 := by unfold payP; rw [if_neg (by omega), if_pos c_97]
                 rw [e] at kP
                 exact t_pay107 hW3 hA3 (by decide) hask kP)
              | (have e : payP nm cnt rc rk co sh a n ask S3 = payC nm cnt rc rk co sh a n ask 0 S3 := by unfold payP; rw [if_neg (by omega), if_neg c_97]
                 rw [e] at kP
                 exact t_pay107 hW3 hA3 (by decide) hask kP)
        · refine mj_iload d_Pur_pay_89 rfl ?_
          refine mj_ineg d_Pur_pay_91 ?_
          refine mj_iret d_Pur_pay_92 rfl rfl (Nat.le_refl _) (Nat.le_refl _) ?_
          have e : payP nm cnt rc rk co sh a n ask S3 = (-(nI S3.1), S3) := by unfold payP; rw [if_pos ⟨c_75, by omega⟩]
          rw [e] at kP
          exact kP h3 (CW_l hW3)
  · refine mj_iload d_Pur_pay_51 rfl ?_
    refine mj_ineg d_Pur_pay_53 ?_
    refine mj_iret d_Pur_pay_54 rfl rfl (Nat.le_refl _) (Nat.le_refl _) ?_
    have e : payB nm cnt rc rk co sh a n pin ask S = (-(nI S.1), S) := by unfold payB; rw [if_pos c_48]
    rw [e] at kP
    exact kP h (CW_l hW)
theorem s_Pur_pay {L : Nat} {xs : Nat → Int32} {Post : Option Value → mHeap → Prop} {li t r nm : List Nat} {cnt : Nat → Nat} {rc : Nat → List Nat} {rk : Nat → Nat} {co cu tr an sg am pv : Nat} {tl h : mHeap} {sh a : Int64} {n pin : Int32} {ask : Nat} (hA : AI t r nm cnt rc rk co cu tr an sg am pv) (hW : CWl li t r nm cnt rc rk co cu tr an sg am pv tl h) (hask : ask < 2) (kF : (¬ (amtOk sh ∧ amtOk a ∧ pin ≤ nI 9999)) → ∀ h', CW t r nm cnt rc rk co cu tr an sg am pv tl h' → Post (some (.int (-1))) h') (kT : (amtOk sh ∧ amtOk a ∧ pin ≤ nI 9999) → ∀ h', CW [] (payA nm cnt rc rk co sh a n pin ask ((0, r, cu, tr, an, sg, am, pv) : R8)).2.2.1 nm cnt rc rk co (payA nm cnt rc rk co sh a n pin ask ((0, r, cu, tr, an, sg, am, pv) : R8)).2.2.2.1 (payA nm cnt rc rk co sh a n pin ask ((0, r, cu, tr, an, sg, am, pv) : R8)).2.2.2.2.1 (payA nm cnt rc rk co sh a n pin ask ((0, r, cu, tr, an, sg, am, pv) : R8)).2.2.2.2.2.1 (payA nm cnt rc rk co sh a n pin ask ((0, r, cu, tr, an, sg, am, pv) : R8)).2.2.2.2.2.2.1 (payA nm cnt rc rk co sh a n pin ask ((0, r, cu, tr, an, sg, am, pv) : R8)).2.2.2.2.2.2.2.1 (payA nm cnt rc rk co sh a n pin ask ((0, r, cu, tr, an, sg, am, pv) : R8)).2.2.2.2.2.2.2.2 tl h' → Post (some (.int (payA nm cnt rc rk co sh a n pin ask ((0, r, cu, tr, an, sg, am, pv) : R8)).1)) h') : mMet M_Pur_pay L xs (7, 187) 0 0 [.ref 0, .long sh, .long a, .int n, .int pin, .int (nI ask)] h Post := by
  refine mMet_of rfl (Nat.le_of_ble_eq_true rfl) ?_
  refine mj_lload_n d_Pur_pay_0 rfl ?_
  refine mj_static (d' := (0, 0)) (mc := 0) (ms := 0) (As := [_]) d_Pur_pay_1 cw_Pur_isAmount q_405 q_406 rfl rfl (mRoomB rfl) ?_
  refine s_Pur_isAmount ?_
  refine mj_ifeqN d_Pur_pay_4 22 rfl (by split <;> omega) (fun c_4 => ?_) (fun c_4 => ?_)
  · refine mj_iconst d_Pur_pay_22 (-1) (by decide) ?_
    refine mj_iret d_Pur_pay_23 rfl rfl (Nat.le_refl _) (Nat.le_refl _) ?_
    refine kF (fun z => ?_) h (CW_l hW)
    first
      | (rw [if_pos z.1] at c_4; omega)
      | (rw [if_pos z.2.1] at c_11; omega)
      | exact c_19 z.2.2
  · refine mj_lload_n d_Pur_pay_7 rfl ?_
    refine mj_static (d' := (0, 0)) (mc := 0) (ms := 0) (As := [_]) d_Pur_pay_8 cw_Pur_isAmount q_405 q_406 rfl rfl (mRoomB rfl) ?_
    refine s_Pur_isAmount ?_
    refine mj_ifeqN d_Pur_pay_11 22 rfl (by split <;> omega) (fun c_11 => ?_) (fun c_11 => ?_)
    · refine mj_iconst d_Pur_pay_22 (-1) (by decide) ?_
      refine mj_iret d_Pur_pay_23 rfl rfl (Nat.le_refl _) (Nat.le_refl _) ?_
      refine kF (fun z => ?_) h (CW_l hW)
      first
        | (rw [if_pos z.1] at c_4; omega)
        | (rw [if_pos z.2.1] at c_11; omega)
        | exact c_19 z.2.2
    · refine mj_iload d_Pur_pay_14 rfl ?_
      refine mj_sipush d_Pur_pay_16 (nI 9999) (by decide) ?_
      refine mj_icmple d_Pur_pay_19 24 rfl (fun c_19 => ?_) (fun c_19 => ?_)
      · have ok1 : amtOk sh := Decidable.byContradiction (fun z => by rw [if_neg z] at c_4; omega)
        have ok2 : amtOk a := Decidable.byContradiction (fun z => by rw [if_neg z] at c_11; omega)
        have kP := kT ⟨ok1, ok2, c_19⟩
        refine mj_aload_n d_Pur_pay_24 rfl ?_
        refine mj_lload_n d_Pur_pay_25 rfl ?_
        refine mj_virtual (d' := (6, 164)) (mc := 0) (ms := 0) (As := [_]) d_Pur_pay_26 cw_Pur_openPayment q_422 q_424 qs_Pur_openPayment (ci := 5) rfl (cw0 hW) rfl rfl (mRoomB rfl) ?_
        refine s_Pur_openPayment (s0 := 0) hA hW (fun S1 h1 hS1 hW1 hA1 hl1 => ?_)
        refine mj_istore d_Pur_pay_29 (by decide) ?_
        dsimp only [mSt1, mSt2, mKill, Nat.reduceAdd]
        refine mj_iload d_Pur_pay_31 rfl ?_
        refine mj_ldc d_Pur_pay_33 (nI 36864) q_432 ?_
        refine mj_icmpneN d_Pur_pay_35 44 rfl (by omega) (fun c_35 => ?_) (fun c_35 => ?_)
        · first
            | (have e : payA nm cnt rc rk co sh a n pin ask ((0, r, cu, tr, an, sg, am, pv) : R8) = payB nm cnt rc rk co sh a n pin ask S1 := by unfold payA; rw [← hS1, if_neg c_35]
               rw [e] at kP
               exact t_pay44 hW1 hA1 hl1 hask c_19 kP)
            | (have e : payA nm cnt rc rk co sh a n pin ask ((0, r, cu, tr, an, sg, am, pv) : R8) = payB nm cnt rc rk co sh a n pin ask S2 := by unfold payA; rw [← hS1, if_pos c_35, ← hS2]
               rw [e] at kP
               exact t_pay44 hW2 hA2 hl2 hask c_19 kP)
        · refine mj_aload_n d_Pur_pay_38 rfl ?_
          refine mj_virtual (d' := (6, 164)) (mc := 0) (ms := 0) (As := []) d_Pur_pay_39 cw_Pur_readRecords q_435 q_437 qs_Pur_readRecords (ci := 5) rfl (cw0 hW1) rfl rfl (mRoomB rfl) ?_
          refine s_Pur_readRecords hW1 hA1 c_35 (opn_rdy (fun f hf => (hA.2.2.2.1 f hf).1) hS1 c_35) (fun S2 li2 h2 hS2 hW2 hA2 hl2 => ?_)
          refine mj_istore d_Pur_pay_42 (by decide) ?_
          dsimp only [mSt1, mSt2, mKill, Nat.reduceAdd]
          first
            | (have e : payA nm cnt rc rk co sh a n pin ask ((0, r, cu, tr, an, sg, am, pv) : R8) = payB nm cnt rc rk co sh a n pin ask S1 := by unfold payA; rw [← hS1, if_neg c_35]
               rw [e] at kP
               exact t_pay44 hW1 hA1 hl1 hask c_19 kP)
            | (have e : payA nm cnt rc rk co sh a n pin ask ((0, r, cu, tr, an, sg, am, pv) : R8) = payB nm cnt rc rk co sh a n pin ask S2 := by unfold payA; rw [← hS1, if_pos c_35, ← hS2]
               rw [e] at kP
               exact t_pay44 hW2 hA2 hl2 hask c_19 kP)
      · refine mj_iconst d_Pur_pay_22 (-1) (by decide) ?_
        refine mj_iret d_Pur_pay_23 rfl rfl (Nat.le_refl _) (Nat.le_refl _) ?_
        refine kF (fun z => ?_) h (CW_l hW)
        first
          | (rw [if_pos z.1] at c_4; omega)
          | (rw [if_pos z.2.1] at c_11; omega)
          | exact c_19 z.2.2
