theorem slM_0 (w : Nat) (a : Int64) (n : Int32) : slM w a n 0 = slT w a n 10 := by unfold slM; rw [if_pos rfl, if_pos rfl, List.append_nil]
theorem slM_1 (a : Int64) (n : Int32) {ag : Nat} (h : ag ≠ 0) : slM 64 a n 12336 = agT ag a n := by unfold slM agT; rw [if_neg (by decide), if_neg (by decide), if_neg h, if_neg h]
theorem slM_2 (a : Int64) (n : Int32) {ag : Nat} (h : ag = 0) : slM 0 a n 12341 = agT ag a n := by unfold slM agT; rw [if_neg (by decide), if_neg (by decide), if_pos h, if_pos h]
theorem fk_giv (rk : Nat → Nat) (t : List Nat) (cu gv pv : Nat) : fk (givR rk t cu gv pv) (nI 40743) = 5 := by
  have hl : (givR rk t cu gv pv).length = 22 := by simp [givR, sl8]
  have g0 : (givR rk t cu gv pv).getD 0 0 = 119 := rfl
  have g1 : (givR rk t cu gv pv).getD 1 0 = 20 := rfl
  have g2 : (givR rk t cu gv pv).getD 2 0 = 159 := rfl
  have g3 : (givR rk t cu gv pv).getD 3 0 = 39 := rfl
  have g4 : (givR rk t cu gv pv).getD 4 0 = 1 := rfl
  generalize givR rk t cu gv pv = l at *
  have h0 : hd3 l 0 = 2 := by unfold hd3; rw [g0, if_neg (by decide)]
  have h2 : hd3 l 2 = 5 := by unfold hd3; rw [g2, if_pos (by decide)]
  have m0 : mt l 0 = 119 := by unfold mt; rw [g0, if_neg (by decide)]
  have m2 : mt l 2 = 40743 := by unfold mt; rw [g2, if_pos (by decide), g3]
  have e : fnd l (nI 40743) 100 [l.length] 0 = some (nI 5) := by
    rw [hl, show (100 : Nat) = 98 + 1 + 1 from rfl, fnd, if_neg (by decide), h0, if_neg (by decide), g1, if_neg (by decide), m0, if_neg (by decide), g0, if_pos (by decide)]
    rw [fnd, if_neg (by decide), h2, if_neg (by decide), g4, if_neg (by decide), m2, if_pos rfl]
  unfold fk
  rw [e]
  decide
theorem cry_ok {t nm : List Nat} {cnt : Nat → Nat} {rc : Nat → List Nat} {rk : Nat → Nat} {co cu tr an sg am pv : Nat} {S : R8} (hS : S = sendF t nm cnt rc rk co cu tr an sg am pv) (hc : cmN (insN t) = 6) (h : S.1 = 36864) : fk S.2.1 (nI 40743) < S.2.1.length ∨ fk S.2.1 (nI 40743) = 0 := by
  have e : S.2.1 = givR rk t cu (givN t am sg an pv) pv := by
    rw [hS] at h ⊢
    revert h
    unfold sendF
    split
    · next z => intro h; exact absurd h z
    · rw [if_neg (by rw [hc]; decide), if_neg (by rw [hc]; decide), if_neg (by rw [hc]; decide), if_neg (by rw [hc]; decide), if_neg (by rw [hc]; decide)]
      intro _
      rfl
  rw [e, fk_giv]
  left
  simp [givR, sl8]
theorem opn_len {nm : List Nat} {cnt : Nat → Nat} {rc : Nat → List Nat} {rk : Nat → Nat} {co : Nat} {a : Int64} {S S1 : R8} (hS : S1 = opnF nm cnt rc rk co a S) (h : S1.1 = 36864) : 4 ≤ S1.2.1.length ∧ S1.2.1.length ≤ 20 := by
  have hl := entR_len cnt 4 0
  unfold opnF at hS
  split at hS
  · rw [hS] at h ⊢
    rw [snd_rdy h]
    unfold rdyR
    rw [List.length_append]
    show 4 ≤ 4 + _ ∧ 4 + _ ≤ 20
    omega
  · next z => rw [hS] at h; exact absurd h z
theorem t_m170 {L : Nat} {xs : Nat → Int32} {Post : Option Value → mHeap → Prop} {nm : List Nat} {cnt : Nat → Nat} {rc : Nat → List Nat} {rk : Nat → Nat} {co : Nat} {pre h : mHeap} {fen : Nat → Int32} {sh a : Int64} {n pin : Int32} {ask : Nat} {S : R8} {good : Nat} {w8 w10 w11 : Option Value} (hW : MW fen [] S.2.1 nm cnt rc rk co S.2.2.1 S.2.2.2.1 S.2.2.2.2.1 S.2.2.2.2.2.1 S.2.2.2.2.2.2.1 S.2.2.2.2.2.2.2 pre h) (hA : AI [] S.2.1 nm cnt rc rk co S.2.2.1 S.2.2.2.1 S.2.2.2.2.1 S.2.2.2.2.2.1 S.2.2.2.2.2.2.1 S.2.2.2.2.2.2.2) (hg : good < 2) (hs : S.1 = 36864) (hfk : fk S.2.1 (nI 40743) < S.2.1.length ∨ fk S.2.1 (nI 40743) = 0) (kP : ∀ (fen2 : Nat → Int32) (h' : mHeap), MW fen2 [] (payD nm cnt rc rk co sh a n good S).2.2.1 nm cnt rc rk co (payD nm cnt rc rk co sh a n good S).2.2.2.1 (payD nm cnt rc rk co sh a n good S).2.2.2.2.1 (payD nm cnt rc rk co sh a n good S).2.2.2.2.2.1 (payD nm cnt rc rk co sh a n good S).2.2.2.2.2.2.1 (payD nm cnt rc rk co sh a n good S).2.2.2.2.2.2.2.1 (payD nm cnt rc rk co sh a n good S).2.2.2.2.2.2.2.2 pre h' → AI [] (payD nm cnt rc rk co sh a n good S).2.2.1 nm cnt rc rk co (payD nm cnt rc rk co sh a n good S).2.2.2.1 (payD nm cnt rc rk co sh a n good S).2.2.2.2.1 (payD nm cnt rc rk co sh a n good S).2.2.2.2.2.1 (payD nm cnt rc rk co sh a n good S).2.2.2.2.2.2.1 (payD nm cnt rc rk co sh a n good S).2.2.2.2.2.2.2.1 (payD nm cnt rc rk co sh a n good S).2.2.2.2.2.2.2.2 → Post (some (.int (payD nm cnt rc rk co sh a n good S).1)) h') : mGo M_Mod_pay L xs (8, 193) 0 0 Post 0 0 170 [some (.ref 24), some (.long sh), none, some (.long a), none, some (.int n), some (.int pin), some (.int (nI ask)), w8, some (.int (nI good)), w10, w11] [] h := by
  refine mj_aload_n d_Mod_pay_170 rfl ?_
  refine mj_virtual (d' := (1, 28)) (mc := 0) (ms := 0) (As := []) d_Mod_pay_171 cw_Mod_cryptogram q_756 q_758 qs_Mod_cryptogram (ci := 6) rfl (MW_24 hW) rfl rfl (mRoomB rfl) ?_
  refine s_Mod_cryptogram hA hW hfk (fun h1 hW1 => ?_)
  refine mj_istore d_Mod_pay_174 (by decide) ?_
  dsimp only [mSt1, mSt2, mKill, Nat.reduceAdd]
  refine mj_iload d_Mod_pay_176 rfl ?_
  refine mj_sipush d_Mod_pay_178 (nI 128) (by decide) ?_
  refine mj_icmpeq d_Mod_pay_181 197 rfl (fun c_181 => ?_) (fun c_181 => ?_)
  · refine mj_aload_n d_Mod_pay_197 rfl ?_
    refine mj_lload_n d_Mod_pay_198 rfl ?_
    refine mj_iload d_Mod_pay_199 rfl ?_
    refine mj_iload d_Mod_pay_201 rfl ?_
    refine mj_virtual (d' := (4, 102)) (mc := 0) (ms := 0) (As := [_, _, _]) d_Mod_pay_203 cw_Mod_genuine q_760 q_704 q_705 (ci := 6) rfl (MW_24 hW1) rfl rfl (mRoomB rfl) ?_
    refine s_Mod_genuine hA hW1 hg (fun h2 hW2 => ?_)
    have hag := genN_lt rk S.2.1 sh n good
    have e0 : payD nm cnt rc rk co sh a n good S = payE (snd8 nm cnt rc rk co (agT (genN rk S.2.1 sh n good) a n) S) := by unfold payD; rw [if_neg (Decidable.not_not.mpr hs), if_neg (by rw [c_181]; decide), if_neg (Decidable.not_not.mpr c_181)]
    rw [e0] at kP
    generalize genN rk S.2.1 sh n good = ag at *
    refine mj_istore d_Mod_pay_206 (by decide) ?_
    dsimp only [mSt1, mSt2, mKill, Nat.reduceAdd]
    refine mj_aload_n d_Mod_pay_208 rfl ?_
    refine mj_iload d_Mod_pay_209 rfl ?_
    refine mj_ifeqN d_Mod_pay_211 219 rfl (by omega) (fun c_211 => ?_) (fun c_211 => ?_)
    · refine mj_iconst d_Mod_pay_219 (nI 0) (by decide) ?_
      refine mj_lload_n d_Mod_pay_220 rfl ?_
      refine mj_iload d_Mod_pay_221 rfl ?_
      refine mj_iload d_Mod_pay_223 rfl ?_
      refine mj_ifeqN d_Mod_pay_225 234 rfl (by omega) (fun c_225 => ?_) (fun c_225 => ?_)
      · refine mj_sipush d_Mod_pay_234 (nI 12341) (by decide) ?_
        refine mj_virtual (d' := (7, 167)) (mc := 0) (ms := 0) (As := [_, _, _, _]) d_Mod_pay_237 cw_Mod_sendSeal q_752 q_754 qs_Mod_sendSeal (ci := 6) rfl (MW_24 hW2) rfl rfl (mRoomB rfl) ?_
        refine s_Mod_sendSeal (w := 0) (more := 12341) hA hW2 (by decide) (by decide) (fun S5 h3 hS5 hW3 hA3 hl3 => ?_)
        have e1 : snd8 nm cnt rc rk co (agT ag a n) S = S5 := by rw [← slM_2 a n (by omega)]; exact hS5.symm
        rw [e1] at kP
        refine mj_istore d_Mod_pay_240 (by decide) ?_
        dsimp only [mSt1, mSt2, mKill, Nat.reduceAdd]
        refine mj_iload d_Mod_pay_242 rfl ?_
        refine mj_ldc d_Mod_pay_244 (nI 36864) q_620 ?_
        refine mj_icmpeqN d_Mod_pay_246 255 rfl (by omega) (fun c_246 => ?_) (fun c_246 => ?_)
        · refine mj_aload_n d_Mod_pay_255 rfl ?_
          refine mj_virtual (d' := (1, 28)) (mc := 0) (ms := 0) (As := []) d_Mod_pay_256 cw_Mod_cryptogram q_756 q_758 qs_Mod_cryptogram (ci := 6) rfl (MW_24 hW3) rfl rfl (mRoomB rfl) ?_
          refine s_Mod_cryptogram hA3 hW3 (cry_ok hS5 rfl c_246) (fun h4 hW4 => ?_)
          refine mj_bipush d_Mod_pay_259 (nI 64) (by decide) ?_
          refine mj_icmpne d_Mod_pay_261 268 rfl (fun c_261 => ?_) (fun c_261 => ?_)
          · refine mj_iconst d_Mod_pay_268 (nI 0) (by decide) ?_
            refine mj_iret d_Mod_pay_269 rfl rfl (Nat.le_refl _) (Nat.le_refl _) ?_
            first
              | (have e : payE S5 = (-(nI S5.1), S5) := by unfold payE; rw [if_pos c_246]
                 rw [e] at kP; exact kP _ _ hW3 hA3)
              | (have e : payE S5 = (nI 2, S5) := by unfold payE; rw [if_neg (Decidable.not_not.mpr c_246), if_pos c_261]
                 rw [e] at kP; exact kP _ _ hW4 hA3)
              | (have e : payE S5 = (nI 0, S5) := by unfold payE; rw [if_neg (Decidable.not_not.mpr c_246), if_neg c_261]
                 rw [e] at kP; exact kP _ _ hW4 hA3)
          · refine mj_iconst d_Mod_pay_264 (nI 2) (by decide) ?_
            refine mj_goto d_Mod_pay_265 269 rfl ?_
            refine mj_iret d_Mod_pay_269 rfl rfl (Nat.le_refl _) (Nat.le_refl _) ?_
            first
              | (have e : payE S5 = (-(nI S5.1), S5) := by unfold payE; rw [if_pos c_246]
                 rw [e] at kP; exact kP _ _ hW3 hA3)
              | (have e : payE S5 = (nI 2, S5) := by unfold payE; rw [if_neg (Decidable.not_not.mpr c_246), if_pos c_261]
                 rw [e] at kP; exact kP _ _ hW4 hA3)
              | (have e : payE S5 = (nI 0, S5) := by unfold payE; rw [if_neg (Decidable.not_not.mpr c_246), if_neg c_261]
                 rw [e] at kP; exact kP _ _ hW4 hA3)
        · refine mj_iload d_Mod_pay_249 rfl ?_
          refine mj_ineg d_Mod_pay_251 ?_
          refine mj_goto d_Mod_pay_252 269 rfl ?_
          refine mj_iret d_Mod_pay_269 rfl rfl (Nat.le_refl _) (Nat.le_refl _) ?_
          first
            | (have e : payE S5 = (-(nI S5.1), S5) := by unfold payE; rw [if_pos c_246]
               rw [e] at kP; exact kP _ _ hW3 hA3)
            | (have e : payE S5 = (nI 2, S5) := by unfold payE; rw [if_neg (Decidable.not_not.mpr c_246), if_pos c_261]
               rw [e] at kP; exact kP _ _ hW4 hA3)
            | (have e : payE S5 = (nI 0, S5) := by unfold payE; rw [if_neg (Decidable.not_not.mpr c_246), if_neg c_261]
               rw [e] at kP; exact kP _ _ hW4 hA3)
      · omega
    · refine mj_bipush d_Mod_pay_214 (nI 64) (by decide) ?_
      refine mj_goto d_Mod_pay_216 220 rfl ?_
      refine mj_lload_n d_Mod_pay_220 rfl ?_
      refine mj_iload d_Mod_pay_221 rfl ?_
      refine mj_iload d_Mod_pay_223 rfl ?_
      refine mj_ifeqN d_Mod_pay_225 234 rfl (by omega) (fun c_225 => ?_) (fun c_225 => ?_)
      · omega
      · refine mj_sipush d_Mod_pay_228 (nI 12336) (by decide) ?_
        refine mj_goto d_Mod_pay_231 237 rfl ?_
        refine mj_virtual (d' := (7, 167)) (mc := 0) (ms := 0) (As := [_, _, _, _]) d_Mod_pay_237 cw_Mod_sendSeal q_752 q_754 qs_Mod_sendSeal (ci := 6) rfl (MW_24 hW2) rfl rfl (mRoomB rfl) ?_
        refine s_Mod_sendSeal (w := 64) (more := 12336) hA hW2 (by decide) (by decide) (fun S5 h3 hS5 hW3 hA3 hl3 => ?_)
        have e1 : snd8 nm cnt rc rk co (agT ag a n) S = S5 := by rw [← slM_1 a n (by omega)]; exact hS5.symm
        rw [e1] at kP
        refine mj_istore d_Mod_pay_240 (by decide) ?_
        dsimp only [mSt1, mSt2, mKill, Nat.reduceAdd]
        refine mj_iload d_Mod_pay_242 rfl ?_
        refine mj_ldc d_Mod_pay_244 (nI 36864) q_620 ?_
        refine mj_icmpeqN d_Mod_pay_246 255 rfl (by omega) (fun c_246 => ?_) (fun c_246 => ?_)
        · refine mj_aload_n d_Mod_pay_255 rfl ?_
          refine mj_virtual (d' := (1, 28)) (mc := 0) (ms := 0) (As := []) d_Mod_pay_256 cw_Mod_cryptogram q_756 q_758 qs_Mod_cryptogram (ci := 6) rfl (MW_24 hW3) rfl rfl (mRoomB rfl) ?_
          refine s_Mod_cryptogram hA3 hW3 (cry_ok hS5 rfl c_246) (fun h4 hW4 => ?_)
          refine mj_bipush d_Mod_pay_259 (nI 64) (by decide) ?_
          refine mj_icmpne d_Mod_pay_261 268 rfl (fun c_261 => ?_) (fun c_261 => ?_)
          · refine mj_iconst d_Mod_pay_268 (nI 0) (by decide) ?_
            refine mj_iret d_Mod_pay_269 rfl rfl (Nat.le_refl _) (Nat.le_refl _) ?_
            first
              | (have e : payE S5 = (-(nI S5.1), S5) := by unfold payE; rw [if_pos c_246]
                 rw [e] at kP; exact kP _ _ hW3 hA3)
              | (have e : payE S5 = (nI 2, S5) := by unfold payE; rw [if_neg (Decidable.not_not.mpr c_246), if_pos c_261]
                 rw [e] at kP; exact kP _ _ hW4 hA3)
              | (have e : payE S5 = (nI 0, S5) := by unfold payE; rw [if_neg (Decidable.not_not.mpr c_246), if_neg c_261]
                 rw [e] at kP; exact kP _ _ hW4 hA3)
          · refine mj_iconst d_Mod_pay_264 (nI 2) (by decide) ?_
            refine mj_goto d_Mod_pay_265 269 rfl ?_
            refine mj_iret d_Mod_pay_269 rfl rfl (Nat.le_refl _) (Nat.le_refl _) ?_
            first
              | (have e : payE S5 = (-(nI S5.1), S5) := by unfold payE; rw [if_pos c_246]
                 rw [e] at kP; exact kP _ _ hW3 hA3)
              | (have e : payE S5 = (nI 2, S5) := by unfold payE; rw [if_neg (Decidable.not_not.mpr c_246), if_pos c_261]
                 rw [e] at kP; exact kP _ _ hW4 hA3)
              | (have e : payE S5 = (nI 0, S5) := by unfold payE; rw [if_neg (Decidable.not_not.mpr c_246), if_neg c_261]
                 rw [e] at kP; exact kP _ _ hW4 hA3)
        · refine mj_iload d_Mod_pay_249 rfl ?_
          refine mj_ineg d_Mod_pay_251 ?_
          refine mj_goto d_Mod_pay_252 269 rfl ?_
          refine mj_iret d_Mod_pay_269 rfl rfl (Nat.le_refl _) (Nat.le_refl _) ?_
          first
            | (have e : payE S5 = (-(nI S5.1), S5) := by unfold payE; rw [if_pos c_246]
               rw [e] at kP; exact kP _ _ hW3 hA3)
            | (have e : payE S5 = (nI 2, S5) := by unfold payE; rw [if_neg (Decidable.not_not.mpr c_246), if_pos c_261]
               rw [e] at kP; exact kP _ _ hW4 hA3)
            | (have e : payE S5 = (nI 0, S5) := by unfold payE; rw [if_neg (Decidable.not_not.mpr c_246), if_neg c_261]
               rw [e] at kP; exact kP _ _ hW4 hA3)
  · refine mj_iload d_Mod_pay_184 rfl ?_
    refine mj_bipush d_Mod_pay_186 (nI 64) (by decide) ?_
    refine mj_icmpne d_Mod_pay_188 195 rfl (fun c_188 => ?_) (fun c_188 => ?_)
    · refine mj_iconst d_Mod_pay_195 (nI 0) (by decide) ?_
      refine mj_iret d_Mod_pay_196 rfl rfl (Nat.le_refl _) (Nat.le_refl _) ?_
      first
        | (have e : payD nm cnt rc rk co sh a n good S = (nI 1, S) := by unfold payD; rw [if_neg (Decidable.not_not.mpr hs), if_pos c_188]
           rw [e] at kP; exact kP _ _ hW1 hA)
        | (have e : payD nm cnt rc rk co sh a n good S = (nI 0, S) := by unfold payD; rw [if_neg (Decidable.not_not.mpr hs), if_neg c_188, if_pos c_181]
           rw [e] at kP; exact kP _ _ hW1 hA)
    · refine mj_iconst d_Mod_pay_191 (nI 1) (by decide) ?_
      refine mj_goto d_Mod_pay_192 196 rfl ?_
      refine mj_iret d_Mod_pay_196 rfl rfl (Nat.le_refl _) (Nat.le_refl _) ?_
      first
        | (have e : payD nm cnt rc rk co sh a n good S = (nI 1, S) := by unfold payD; rw [if_neg (Decidable.not_not.mpr hs), if_pos c_188]
           rw [e] at kP; exact kP _ _ hW1 hA)
        | (have e : payD nm cnt rc rk co sh a n good S = (nI 0, S) := by unfold payD; rw [if_neg (Decidable.not_not.mpr hs), if_neg c_188, if_pos c_181]
           rw [e] at kP; exact kP _ _ hW1 hA)
theorem t_mF {L : Nat} {xs : Nat → Int32} {Post : Option Value → mHeap → Prop} {h : mHeap} {sh a : Int64} {n pin : Int32} {ask s : Nat} {w9 w10 w11 : Option Value} (hs : s ≠ 36864) (hl : s < 65536) (kP : Post (some (.int (-(nI s)))) h) : mGo M_Mod_pay L xs (8, 193) 0 0 Post 0 0 124 [some (.ref 24), some (.long sh), none, some (.long a), none, some (.int n), some (.int pin), some (.int (nI ask)), some (.int (nI s)), w9, w10, w11] [] h := by
  refine mj_iload d_Mod_pay_124 rfl ?_
  refine mj_ldc d_Mod_pay_126 (nI 36864) q_620 ?_
  refine mj_icmpneN d_Mod_pay_128 155 rfl (by omega) (fun c_128 => ?_) (fun c_128 => ?_)
  · refine mj_iload d_Mod_pay_155 rfl ?_
    refine mj_istore d_Mod_pay_157 (by decide) ?_
    dsimp only [mSt1, mSt2, mKill, Nat.reduceAdd]
    refine mj_iload d_Mod_pay_159 rfl ?_
    refine mj_ldc d_Mod_pay_161 (nI 36864) q_620 ?_
    refine mj_icmpeqN d_Mod_pay_163 170 rfl (by omega) (fun c_163 => ?_) (fun c_163 => ?_)
    · omega
    · refine mj_iload d_Mod_pay_166 rfl ?_
      refine mj_ineg d_Mod_pay_168 ?_
      refine mj_iret d_Mod_pay_169 rfl rfl (Nat.le_refl _) (Nat.le_refl _) ?_
      exact kP
  · omega
theorem t_m124 {L : Nat} {xs : Nat → Int32} {Post : Option Value → mHeap → Prop} {nm : List Nat} {cnt : Nat → Nat} {rc : Nat → List Nat} {rk : Nat → Nat} {co : Nat} {pre h : mHeap} {fen : Nat → Int32} {sh a : Int64} {n pin : Int32} {ask : Nat} {S : R8} {good : Nat} {w10 w11 : Option Value} (hW : MW fen [] S.2.1 nm cnt rc rk co S.2.2.1 S.2.2.2.1 S.2.2.2.2.1 S.2.2.2.2.2.1 S.2.2.2.2.2.2.1 S.2.2.2.2.2.2.2 pre h) (hA : AI [] S.2.1 nm cnt rc rk co S.2.2.1 S.2.2.2.1 S.2.2.2.2.1 S.2.2.2.2.2.1 S.2.2.2.2.2.2.1 S.2.2.2.2.2.2.2) (hg : good < 2) (hask : ask < 2) (kP : ∀ (fen2 : Nat → Int32) (h' : mHeap), MW fen2 [] (payC nm cnt rc rk co sh a n ask good S).2.2.1 nm cnt rc rk co (payC nm cnt rc rk co sh a n ask good S).2.2.2.1 (payC nm cnt rc rk co sh a n ask good S).2.2.2.2.1 (payC nm cnt rc rk co sh a n ask good S).2.2.2.2.2.1 (payC nm cnt rc rk co sh a n ask good S).2.2.2.2.2.2.1 (payC nm cnt rc rk co sh a n ask good S).2.2.2.2.2.2.2.1 (payC nm cnt rc rk co sh a n ask good S).2.2.2.2.2.2.2.2 pre h' → AI [] (payC nm cnt rc rk co sh a n ask good S).2.2.1 nm cnt rc rk co (payC nm cnt rc rk co sh a n ask good S).2.2.2.1 (payC nm cnt rc rk co sh a n ask good S).2.2.2.2.1 (payC nm cnt rc rk co sh a n ask good S).2.2.2.2.2.1 (payC nm cnt rc rk co sh a n ask good S).2.2.2.2.2.2.1 (payC nm cnt rc rk co sh a n ask good S).2.2.2.2.2.2.2.1 (payC nm cnt rc rk co sh a n ask good S).2.2.2.2.2.2.2.2 → Post (some (.int (payC nm cnt rc rk co sh a n ask good S).1)) h') : mGo M_Mod_pay L xs (8, 193) 0 0 Post 0 0 124 [some (.ref 24), some (.long sh), none, some (.long a), none, some (.int n), some (.int pin), some (.int (nI ask)), some (.int (nI 36864)), some (.int (nI good)), w10, w11] [] h := by
  refine mj_iload d_Mod_pay_124 rfl ?_
  refine mj_ldc d_Mod_pay_126 (nI 36864) q_620 ?_
  refine mj_icmpneN d_Mod_pay_128 155 rfl (by decide) (fun c_128 => ?_) (fun c_128 => ?_)
  · omega
  · refine mj_aload_n d_Mod_pay_131 rfl ?_
    refine mj_iload d_Mod_pay_132 rfl ?_
    refine mj_ifeqN d_Mod_pay_134 143 rfl (by omega) (fun c_134 => ?_) (fun c_134 => ?_)
    · refine mj_bipush d_Mod_pay_143 (nI 64) (by decide) ?_
      refine mj_lload_n d_Mod_pay_145 rfl ?_
      refine mj_iload d_Mod_pay_146 rfl ?_
      refine mj_iconst d_Mod_pay_148 (nI 0) (by decide) ?_
      refine mj_virtual (d' := (7, 167)) (mc := 0) (ms := 0) (As := [_, _, _, _]) d_Mod_pay_149 cw_Mod_sendSeal q_752 q_754 qs_Mod_sendSeal (ci := 6) rfl (MW_24 hW) rfl rfl (mRoomB rfl) ?_
      refine s_Mod_sendSeal (w := 64) (more := 0) hA hW (by decide) (by decide) (fun S4 h4 hS4 hW4 hA4 hl4 => ?_)
      have e1 : payC nm cnt rc rk co sh a n ask good S = payD nm cnt rc rk co sh a n good S4 := by unfold payC; rw [if_pos c_134, ← slM_0]; exact congrArg _ hS4.symm
      rw [e1] at kP
      refine mj_goto d_Mod_pay_152 157 rfl ?_
      refine mj_istore d_Mod_pay_157 (by decide) ?_
      dsimp only [mSt1, mSt2, mKill, Nat.reduceAdd]
      refine mj_iload d_Mod_pay_159 rfl ?_
      refine mj_ldc d_Mod_pay_161 (nI 36864) q_620 ?_
      refine mj_icmpeqN d_Mod_pay_163 170 rfl (by omega) (fun c_163 => ?_) (fun c_163 => ?_)
      · exact t_m170 hW4 hA4 hg c_163 (cry_ok hS4 rfl c_163) kP
      · refine mj_iload d_Mod_pay_166 rfl ?_
        refine mj_ineg d_Mod_pay_168 ?_
        refine mj_iret d_Mod_pay_169 rfl rfl (Nat.le_refl _) (Nat.le_refl _) ?_
        have e : payD nm cnt rc rk co sh a n good S4 = (-(nI S4.1), S4) := by unfold payD; rw [if_pos c_163]
        rw [e] at kP; exact kP _ _ hW4 hA4
    · refine mj_sipush d_Mod_pay_137 (nI 128) (by decide) ?_
      refine mj_goto d_Mod_pay_140 145 rfl ?_
      refine mj_lload_n d_Mod_pay_145 rfl ?_
      refine mj_iload d_Mod_pay_146 rfl ?_
      refine mj_iconst d_Mod_pay_148 (nI 0) (by decide) ?_
      refine mj_virtual (d' := (7, 167)) (mc := 0) (ms := 0) (As := [_, _, _, _]) d_Mod_pay_149 cw_Mod_sendSeal q_752 q_754 qs_Mod_sendSeal (ci := 6) rfl (MW_24 hW) rfl rfl (mRoomB rfl) ?_
      refine s_Mod_sendSeal (w := 128) (more := 0) hA hW (by decide) (by decide) (fun S4 h4 hS4 hW4 hA4 hl4 => ?_)
      have e1 : payC nm cnt rc rk co sh a n ask good S = payD nm cnt rc rk co sh a n good S4 := by unfold payC; rw [if_neg c_134, ← slM_0]; exact congrArg _ hS4.symm
      rw [e1] at kP
      refine mj_goto d_Mod_pay_152 157 rfl ?_
      refine mj_istore d_Mod_pay_157 (by decide) ?_
      dsimp only [mSt1, mSt2, mKill, Nat.reduceAdd]
      refine mj_iload d_Mod_pay_159 rfl ?_
      refine mj_ldc d_Mod_pay_161 (nI 36864) q_620 ?_
      refine mj_icmpeqN d_Mod_pay_163 170 rfl (by omega) (fun c_163 => ?_) (fun c_163 => ?_)
      · exact t_m170 hW4 hA4 hg c_163 (cry_ok hS4 rfl c_163) kP
      · refine mj_iload d_Mod_pay_166 rfl ?_
        refine mj_ineg d_Mod_pay_168 ?_
        refine mj_iret d_Mod_pay_169 rfl rfl (Nat.le_refl _) (Nat.le_refl _) ?_
        have e : payD nm cnt rc rk co sh a n good S4 = (-(nI S4.1), S4) := by unfold payD; rw [if_pos c_163]
        rw [e] at kP; exact kP _ _ hW4 hA4
theorem t_m67 {L : Nat} {xs : Nat → Int32} {Post : Option Value → mHeap → Prop} {nm : List Nat} {cnt : Nat → Nat} {rc : Nat → List Nat} {rk : Nat → Nat} {co : Nat} {pre h : mHeap} {fen : Nat → Int32} {sh a : Int64} {n pin : Int32} {ask : Nat} {S : R8} {w9 w10 w11 : Option Value} (hW : MW fen [] S.2.1 nm cnt rc rk co S.2.2.1 S.2.2.2.1 S.2.2.2.2.1 S.2.2.2.2.2.1 S.2.2.2.2.2.2.1 S.2.2.2.2.2.2.2 pre h) (hA : AI [] S.2.1 nm cnt rc rk co S.2.2.1 S.2.2.2.1 S.2.2.2.2.1 S.2.2.2.2.2.1 S.2.2.2.2.2.2.1 S.2.2.2.2.2.2.2) (hl : S.1 < 65536) (hask : ask < 2) (hpin : pin ≤ nI 9999) (kP : ∀ (fen2 : Nat → Int32) (h' : mHeap), MW fen2 [] (payB nm cnt rc rk co sh a n pin ask S).2.2.1 nm cnt rc rk co (payB nm cnt rc rk co sh a n pin ask S).2.2.2.1 (payB nm cnt rc rk co sh a n pin ask S).2.2.2.2.1 (payB nm cnt rc rk co sh a n pin ask S).2.2.2.2.2.1 (payB nm cnt rc rk co sh a n pin ask S).2.2.2.2.2.2.1 (payB nm cnt rc rk co sh a n pin ask S).2.2.2.2.2.2.2.1 (payB nm cnt rc rk co sh a n pin ask S).2.2.2.2.2.2.2.2 pre h' → AI [] (payB nm cnt rc rk co sh a n pin ask S).2.2.1 nm cnt rc rk co (payB nm cnt rc rk co sh a n pin ask S).2.2.2.1 (payB nm cnt rc rk co sh a n pin ask S).2.2.2.2.1 (payB nm cnt rc rk co sh a n pin ask S).2.2.2.2.2.1 (payB nm cnt rc rk co sh a n pin ask S).2.2.2.2.2.2.1 (payB nm cnt rc rk co sh a n pin ask S).2.2.2.2.2.2.2.1 (payB nm cnt rc rk co sh a n pin ask S).2.2.2.2.2.2.2.2 → Post (some (.int (payB nm cnt rc rk co sh a n pin ask S).1)) h') : mGo M_Mod_pay L xs (8, 193) 0 0 Post 0 0 67 [some (.ref 24), some (.long sh), none, some (.long a), none, some (.int n), some (.int pin), some (.int (nI ask)), some (.int (nI S.1)), w9, w10, w11] [] h := by
  refine mj_iconst d_Mod_pay_67 (nI 0) (by decide) ?_
  refine mj_istore d_Mod_pay_68 (by decide) ?_
  dsimp only [mSt1, mSt2, mKill, Nat.reduceAdd]
  refine mj_iload d_Mod_pay_70 rfl ?_
  refine mj_ldc d_Mod_pay_72 (nI 36864) q_620 ?_
  refine mj_icmpneN d_Mod_pay_74 124 rfl (by omega) (fun c_74 => ?_) (fun c_74 => ?_)
  · first
      | omega
      | (have e : payP nm cnt rc rk co sh a n ask S3 = (-(nI S3.1), S3) := by unfold payP; rw [if_pos ⟨c_94, c_112⟩]
         rw [e] at kP; exact t_mF c_94 hl3 (kP _ _ hW3 hA3))
      | (have e : payP nm cnt rc rk co sh a n ask S3 = payC nm cnt rc rk co sh a n ask 1 S3 := by unfold payP; rw [if_neg (by omega), if_pos c_94]
         rw [e] at kP; rw [c_94]; exact t_m124 hW3 hA3 (by decide) hask kP)
      | (have e : payP nm cnt rc rk co sh a n ask S3 = payC nm cnt rc rk co sh a n ask 0 S3 := by unfold payP; rw [if_neg (by omega), if_neg c_94]
         rw [e] at kP; exact t_m124 hW3 hA3 (by decide) hask kP)
      | (have e : payB nm cnt rc rk co sh a n pin ask S = payC nm cnt rc rk co sh a n ask 0 S := by unfold payB; rw [if_neg (Decidable.not_not.mpr c_74), if_pos c_79]
         rw [e] at kP; rw [c_74]; exact t_m124 hW hA (by decide) hask kP)
      | (have e : payB nm cnt rc rk co sh a n pin ask S = (-(nI S.1), S) := by unfold payB; rw [if_pos c_74]
         rw [e] at kP; exact t_mF c_74 hl (kP _ _ hW hA))
  · refine mj_iload d_Mod_pay_77 rfl ?_
    refine mj_iflt d_Mod_pay_79 124 rfl (fun c_79 => ?_) (fun c_79 => ?_)
    · first
        | omega
        | (have e : payP nm cnt rc rk co sh a n ask S3 = (-(nI S3.1), S3) := by unfold payP; rw [if_pos ⟨c_94, c_112⟩]
           rw [e] at kP; exact t_mF c_94 hl3 (kP _ _ hW3 hA3))
        | (have e : payP nm cnt rc rk co sh a n ask S3 = payC nm cnt rc rk co sh a n ask 1 S3 := by unfold payP; rw [if_neg (by omega), if_pos c_94]
           rw [e] at kP; rw [c_94]; exact t_m124 hW3 hA3 (by decide) hask kP)
        | (have e : payP nm cnt rc rk co sh a n ask S3 = payC nm cnt rc rk co sh a n ask 0 S3 := by unfold payP; rw [if_neg (by omega), if_neg c_94]
           rw [e] at kP; exact t_m124 hW3 hA3 (by decide) hask kP)
        | (have e : payB nm cnt rc rk co sh a n pin ask S = payC nm cnt rc rk co sh a n ask 0 S := by unfold payB; rw [if_neg (Decidable.not_not.mpr c_74), if_pos c_79]
           rw [e] at kP; rw [c_74]; exact t_m124 hW hA (by decide) hask kP)
        | (have e : payB nm cnt rc rk co sh a n pin ask S = (-(nI S.1), S) := by unfold payB; rw [if_pos c_74]
           rw [e] at kP; exact t_mF c_74 hl (kP _ _ hW hA))
    · obtain ⟨p, hp, rfl⟩ := nI_of c_79
      have hp9 := (nI_leI hp (by decide)).mp hpin
      have e0 : payB nm cnt rc rk co sh a n (nI p) ask S = payP nm cnt rc rk co sh a n ask (snd8 nm cnt rc rk co (pinT p) S) := by unfold payB; rw [if_neg (Decidable.not_not.mpr c_74), if_neg c_79, nI_clamp hp]
      rw [e0] at kP
      refine mj_aload_n d_Mod_pay_82 rfl ?_
      refine mj_iload d_Mod_pay_83 rfl ?_
      refine mj_virtual (d' := (7, 167)) (mc := 0) (ms := 0) (As := [_]) d_Mod_pay_85 cw_Mod_sendProve q_748 q_750 qs_Mod_sendProve (ci := 6) rfl (MW_24 hW) rfl rfl (mRoomB rfl) ?_
      refine s_Mod_sendProve hA hW hp9 (fun S3 h3 hS3 hW3 hA3 hl3 => ?_)
      have e1 : snd8 nm cnt rc rk co (pinT p) S = S3 := hS3.symm
      rw [e1] at kP
      refine mj_istore d_Mod_pay_88 (by decide) ?_
      dsimp only [mSt1, mSt2, mKill, Nat.reduceAdd]
      refine mj_iload d_Mod_pay_90 rfl ?_
      refine mj_ldc d_Mod_pay_92 (nI 36864) q_620 ?_
      refine mj_icmpneN d_Mod_pay_94 101 rfl (by omega) (fun c_94 => ?_) (fun c_94 => ?_)
      · refine mj_iconst d_Mod_pay_101 (nI 0) (by decide) ?_
        refine mj_istore d_Mod_pay_102 (by decide) ?_
        dsimp only [mSt1, mSt2, mKill, Nat.reduceAdd]
        refine mj_iload d_Mod_pay_104 rfl ?_
        refine mj_bipush d_Mod_pay_106 (nI 16) (by decide) ?_
        refine mj_idiv d_Mod_pay_108 (by decide) ?_
        rw [pk_div (by omega) (by decide) (by decide)]
        refine mj_sipush d_Mod_pay_109 (nI 1596) (by decide) ?_
        refine mj_icmpneN d_Mod_pay_112 120 rfl (by omega) (fun c_112 => ?_) (fun c_112 => ?_)
        · refine mj_iload d_Mod_pay_120 rfl ?_
          refine mj_istore d_Mod_pay_122 (by decide) ?_
          dsimp only [mSt1, mSt2, mKill, Nat.reduceAdd]
          first
            | omega
            | (have e : payP nm cnt rc rk co sh a n ask S3 = (-(nI S3.1), S3) := by unfold payP; rw [if_pos ⟨c_94, c_112⟩]
               rw [e] at kP; exact t_mF c_94 hl3 (kP _ _ hW3 hA3))
            | (have e : payP nm cnt rc rk co sh a n ask S3 = payC nm cnt rc rk co sh a n ask 1 S3 := by unfold payP; rw [if_neg (by omega), if_pos c_94]
               rw [e] at kP; rw [c_94]; exact t_m124 hW3 hA3 (by decide) hask kP)
            | (have e : payP nm cnt rc rk co sh a n ask S3 = payC nm cnt rc rk co sh a n ask 0 S3 := by unfold payP; rw [if_neg (by omega), if_neg c_94]
               rw [e] at kP; exact t_m124 hW3 hA3 (by decide) hask kP)
            | (have e : payB nm cnt rc rk co sh a n pin ask S = payC nm cnt rc rk co sh a n ask 0 S := by unfold payB; rw [if_neg (Decidable.not_not.mpr c_74), if_pos c_79]
               rw [e] at kP; rw [c_74]; exact t_m124 hW hA (by decide) hask kP)
            | (have e : payB nm cnt rc rk co sh a n pin ask S = (-(nI S.1), S) := by unfold payB; rw [if_pos c_74]
               rw [e] at kP; exact t_mF c_74 hl (kP _ _ hW hA))
        · refine mj_ldc d_Mod_pay_115 (nI 36864) q_620 ?_
          refine mj_goto d_Mod_pay_117 122 rfl ?_
          refine mj_istore d_Mod_pay_122 (by decide) ?_
          dsimp only [mSt1, mSt2, mKill, Nat.reduceAdd]
          first
            | omega
            | (have e : payP nm cnt rc rk co sh a n ask S3 = (-(nI S3.1), S3) := by unfold payP; rw [if_pos ⟨c_94, c_112⟩]
               rw [e] at kP; exact t_mF c_94 hl3 (kP _ _ hW3 hA3))
            | (have e : payP nm cnt rc rk co sh a n ask S3 = payC nm cnt rc rk co sh a n ask 1 S3 := by unfold payP; rw [if_neg (by omega), if_pos c_94]
               rw [e] at kP; rw [c_94]; exact t_m124 hW3 hA3 (by decide) hask kP)
            | (have e : payP nm cnt rc rk co sh a n ask S3 = payC nm cnt rc rk co sh a n ask 0 S3 := by unfold payP; rw [if_neg (by omega), if_neg c_94]
               rw [e] at kP; exact t_m124 hW3 hA3 (by decide) hask kP)
            | (have e : payB nm cnt rc rk co sh a n pin ask S = payC nm cnt rc rk co sh a n ask 0 S := by unfold payB; rw [if_neg (Decidable.not_not.mpr c_74), if_pos c_79]
               rw [e] at kP; rw [c_74]; exact t_m124 hW hA (by decide) hask kP)
            | (have e : payB nm cnt rc rk co sh a n pin ask S = (-(nI S.1), S) := by unfold payB; rw [if_pos c_74]
               rw [e] at kP; exact t_mF c_74 hl (kP _ _ hW hA))
      · refine mj_iconst d_Mod_pay_97 (nI 1) (by decide) ?_
        refine mj_goto d_Mod_pay_98 102 rfl ?_
        refine mj_istore d_Mod_pay_102 (by decide) ?_
        dsimp only [mSt1, mSt2, mKill, Nat.reduceAdd]
        refine mj_iload d_Mod_pay_104 rfl ?_
        refine mj_bipush d_Mod_pay_106 (nI 16) (by decide) ?_
        refine mj_idiv d_Mod_pay_108 (by decide) ?_
        rw [pk_div (by omega) (by decide) (by decide)]
        refine mj_sipush d_Mod_pay_109 (nI 1596) (by decide) ?_
        refine mj_icmpneN d_Mod_pay_112 120 rfl (by omega) (fun c_112 => ?_) (fun c_112 => ?_)
        · refine mj_iload d_Mod_pay_120 rfl ?_
          refine mj_istore d_Mod_pay_122 (by decide) ?_
          dsimp only [mSt1, mSt2, mKill, Nat.reduceAdd]
          first
            | omega
            | (have e : payP nm cnt rc rk co sh a n ask S3 = (-(nI S3.1), S3) := by unfold payP; rw [if_pos ⟨c_94, c_112⟩]
               rw [e] at kP; exact t_mF c_94 hl3 (kP _ _ hW3 hA3))
            | (have e : payP nm cnt rc rk co sh a n ask S3 = payC nm cnt rc rk co sh a n ask 1 S3 := by unfold payP; rw [if_neg (by omega), if_pos c_94]
               rw [e] at kP; rw [c_94]; exact t_m124 hW3 hA3 (by decide) hask kP)
            | (have e : payP nm cnt rc rk co sh a n ask S3 = payC nm cnt rc rk co sh a n ask 0 S3 := by unfold payP; rw [if_neg (by omega), if_neg c_94]
               rw [e] at kP; exact t_m124 hW3 hA3 (by decide) hask kP)
            | (have e : payB nm cnt rc rk co sh a n pin ask S = payC nm cnt rc rk co sh a n ask 0 S := by unfold payB; rw [if_neg (Decidable.not_not.mpr c_74), if_pos c_79]
               rw [e] at kP; rw [c_74]; exact t_m124 hW hA (by decide) hask kP)
            | (have e : payB nm cnt rc rk co sh a n pin ask S = (-(nI S.1), S) := by unfold payB; rw [if_pos c_74]
               rw [e] at kP; exact t_mF c_74 hl (kP _ _ hW hA))
        · refine mj_ldc d_Mod_pay_115 (nI 36864) q_620 ?_
          refine mj_goto d_Mod_pay_117 122 rfl ?_
          refine mj_istore d_Mod_pay_122 (by decide) ?_
          dsimp only [mSt1, mSt2, mKill, Nat.reduceAdd]
          first
            | omega
            | (have e : payP nm cnt rc rk co sh a n ask S3 = (-(nI S3.1), S3) := by unfold payP; rw [if_pos ⟨c_94, c_112⟩]
               rw [e] at kP; exact t_mF c_94 hl3 (kP _ _ hW3 hA3))
            | (have e : payP nm cnt rc rk co sh a n ask S3 = payC nm cnt rc rk co sh a n ask 1 S3 := by unfold payP; rw [if_neg (by omega), if_pos c_94]
               rw [e] at kP; rw [c_94]; exact t_m124 hW3 hA3 (by decide) hask kP)
            | (have e : payP nm cnt rc rk co sh a n ask S3 = payC nm cnt rc rk co sh a n ask 0 S3 := by unfold payP; rw [if_neg (by omega), if_neg c_94]
               rw [e] at kP; exact t_m124 hW3 hA3 (by decide) hask kP)
            | (have e : payB nm cnt rc rk co sh a n pin ask S = payC nm cnt rc rk co sh a n ask 0 S := by unfold payB; rw [if_neg (Decidable.not_not.mpr c_74), if_pos c_79]
               rw [e] at kP; rw [c_74]; exact t_m124 hW hA (by decide) hask kP)
            | (have e : payB nm cnt rc rk co sh a n pin ask S = (-(nI S.1), S) := by unfold payB; rw [if_pos c_74]
               rw [e] at kP; exact t_mF c_74 hl (kP _ _ hW hA))
theorem t_m49 {L : Nat} {xs : Nat → Int32} {Post : Option Value → mHeap → Prop} {nm : List Nat} {cnt : Nat → Nat} {rc : Nat → List Nat} {rk : Nat → Nat} {co : Nat} {pre h : mHeap} {fen : Nat → Int32} {sh a : Int64} {n pin : Int32} {ask : Nat} {S : R8} {w9 w10 w11 : Option Value} (hW : MW fen [] S.2.1 nm cnt rc rk co S.2.2.1 S.2.2.2.1 S.2.2.2.2.1 S.2.2.2.2.2.1 S.2.2.2.2.2.2.1 S.2.2.2.2.2.2.2 pre h) (hA : AI [] S.2.1 nm cnt rc rk co S.2.2.1 S.2.2.2.1 S.2.2.2.2.1 S.2.2.2.2.2.1 S.2.2.2.2.2.2.1 S.2.2.2.2.2.2.2) (hl : S.1 < 65536) (hask : ask < 2) (hpin : pin ≤ nI 9999) (hL : S.1 = 36864 → (4 ≤ S.2.1.length ∧ S.2.1.length ≤ 20)) (hE : S.1 = 36864 → ∀ j, 4 ≤ j → S.2.1.getD j 0 ≤ 200) (kP : ∀ (fen2 : Nat → Int32) (h' : mHeap), MW fen2 [] (payB nm cnt rc rk co sh a n pin ask (if S.1 = 36864 then rdO nm cnt rc rk co (S.2.1.drop 4) S else S)).2.2.1 nm cnt rc rk co (payB nm cnt rc rk co sh a n pin ask (if S.1 = 36864 then rdO nm cnt rc rk co (S.2.1.drop 4) S else S)).2.2.2.1 (payB nm cnt rc rk co sh a n pin ask (if S.1 = 36864 then rdO nm cnt rc rk co (S.2.1.drop 4) S else S)).2.2.2.2.1 (payB nm cnt rc rk co sh a n pin ask (if S.1 = 36864 then rdO nm cnt rc rk co (S.2.1.drop 4) S else S)).2.2.2.2.2.1 (payB nm cnt rc rk co sh a n pin ask (if S.1 = 36864 then rdO nm cnt rc rk co (S.2.1.drop 4) S else S)).2.2.2.2.2.2.1 (payB nm cnt rc rk co sh a n pin ask (if S.1 = 36864 then rdO nm cnt rc rk co (S.2.1.drop 4) S else S)).2.2.2.2.2.2.2.1 (payB nm cnt rc rk co sh a n pin ask (if S.1 = 36864 then rdO nm cnt rc rk co (S.2.1.drop 4) S else S)).2.2.2.2.2.2.2.2 pre h' → AI [] (payB nm cnt rc rk co sh a n pin ask (if S.1 = 36864 then rdO nm cnt rc rk co (S.2.1.drop 4) S else S)).2.2.1 nm cnt rc rk co (payB nm cnt rc rk co sh a n pin ask (if S.1 = 36864 then rdO nm cnt rc rk co (S.2.1.drop 4) S else S)).2.2.2.1 (payB nm cnt rc rk co sh a n pin ask (if S.1 = 36864 then rdO nm cnt rc rk co (S.2.1.drop 4) S else S)).2.2.2.2.1 (payB nm cnt rc rk co sh a n pin ask (if S.1 = 36864 then rdO nm cnt rc rk co (S.2.1.drop 4) S else S)).2.2.2.2.2.1 (payB nm cnt rc rk co sh a n pin ask (if S.1 = 36864 then rdO nm cnt rc rk co (S.2.1.drop 4) S else S)).2.2.2.2.2.2.1 (payB nm cnt rc rk co sh a n pin ask (if S.1 = 36864 then rdO nm cnt rc rk co (S.2.1.drop 4) S else S)).2.2.2.2.2.2.2.1 (payB nm cnt rc rk co sh a n pin ask (if S.1 = 36864 then rdO nm cnt rc rk co (S.2.1.drop 4) S else S)).2.2.2.2.2.2.2.2 → Post (some (.int (payB nm cnt rc rk co sh a n pin ask (if S.1 = 36864 then rdO nm cnt rc rk co (S.2.1.drop 4) S else S)).1)) h') : mGo M_Mod_pay L xs (8, 193) 0 0 Post 0 0 49 [some (.ref 24), some (.long sh), none, some (.long a), none, some (.int n), some (.int pin), some (.int (nI ask)), some (.int (nI S.1)), w9, w10, w11] [] h := by
  refine mj_iload d_Mod_pay_49 rfl ?_
  refine mj_ldc d_Mod_pay_51 (nI 36864) q_620 ?_
  refine mj_icmpneN d_Mod_pay_53 63 rfl (by omega) (fun c_53 => ?_) (fun c_53 => ?_)
  · refine mj_iload d_Mod_pay_63 rfl ?_
    refine mj_istore d_Mod_pay_65 (by decide) ?_
    dsimp only [mSt1, mSt2, mKill, Nat.reduceAdd]
    first
      | (rw [if_pos c_53, ← hS2] at kP; exact t_m67 hW2 hA2 hl2 hask hpin kP)
      | (rw [if_neg c_53] at kP; exact t_m67 hW hA hl hask hpin kP)
  · refine mj_aload_n d_Mod_pay_56 rfl ?_
    refine mj_virtual (d' := (7, 167)) (mc := 0) (ms := 0) (As := []) d_Mod_pay_57 cw_Mod_readAll q_744 q_746 qs_Mod_readAll (ci := 6) rfl (MW_24 hW) rfl rfl (mRoomB rfl) ?_
    refine s_Mod_readAll hW hA c_53 (hL c_53) (hE c_53) (fun S2 fen2 h2 hS2 hW2 hA2 hl2 => ?_)
    refine mj_goto d_Mod_pay_60 65 rfl ?_
    refine mj_istore d_Mod_pay_65 (by decide) ?_
    dsimp only [mSt1, mSt2, mKill, Nat.reduceAdd]
    first
      | (rw [if_pos c_53, ← hS2] at kP; exact t_m67 hW2 hA2 hl2 hask hpin kP)
      | (rw [if_neg c_53] at kP; exact t_m67 hW hA hl hask hpin kP)
theorem s_Mod_pay {L : Nat} {xs : Nat → Int32} {Post : Option Value → mHeap → Prop} {fen : Nat → Int32} {t r nm : List Nat} {cnt : Nat → Nat} {rc : Nat → List Nat} {rk : Nat → Nat} {co cu tr an sg am pv : Nat} {pre h : mHeap} {sh a : Int64} {n pin : Int32} {ask : Nat} (hA : AI t r nm cnt rc rk co cu tr an sg am pv) (hW : MW fen t r nm cnt rc rk co cu tr an sg am pv pre h) (hask : ask < 2) (kF : (¬ (amtOk sh ∧ amtOk a ∧ pin ≤ nI 9999)) → ∀ h', MW fen t r nm cnt rc rk co cu tr an sg am pv pre h' → Post (some (.int (-1))) h') (kT : (amtOk sh ∧ amtOk a ∧ pin ≤ nI 9999) → ∀ (fen2 : Nat → Int32) (h' : mHeap), MW fen2 [] (payA nm cnt rc rk co sh a n pin ask ((0, r, cu, tr, an, sg, am, pv) : R8)).2.2.1 nm cnt rc rk co (payA nm cnt rc rk co sh a n pin ask ((0, r, cu, tr, an, sg, am, pv) : R8)).2.2.2.1 (payA nm cnt rc rk co sh a n pin ask ((0, r, cu, tr, an, sg, am, pv) : R8)).2.2.2.2.1 (payA nm cnt rc rk co sh a n pin ask ((0, r, cu, tr, an, sg, am, pv) : R8)).2.2.2.2.2.1 (payA nm cnt rc rk co sh a n pin ask ((0, r, cu, tr, an, sg, am, pv) : R8)).2.2.2.2.2.2.1 (payA nm cnt rc rk co sh a n pin ask ((0, r, cu, tr, an, sg, am, pv) : R8)).2.2.2.2.2.2.2.1 (payA nm cnt rc rk co sh a n pin ask ((0, r, cu, tr, an, sg, am, pv) : R8)).2.2.2.2.2.2.2.2 pre h' → AI [] (payA nm cnt rc rk co sh a n pin ask ((0, r, cu, tr, an, sg, am, pv) : R8)).2.2.1 nm cnt rc rk co (payA nm cnt rc rk co sh a n pin ask ((0, r, cu, tr, an, sg, am, pv) : R8)).2.2.2.1 (payA nm cnt rc rk co sh a n pin ask ((0, r, cu, tr, an, sg, am, pv) : R8)).2.2.2.2.1 (payA nm cnt rc rk co sh a n pin ask ((0, r, cu, tr, an, sg, am, pv) : R8)).2.2.2.2.2.1 (payA nm cnt rc rk co sh a n pin ask ((0, r, cu, tr, an, sg, am, pv) : R8)).2.2.2.2.2.2.1 (payA nm cnt rc rk co sh a n pin ask ((0, r, cu, tr, an, sg, am, pv) : R8)).2.2.2.2.2.2.2.1 (payA nm cnt rc rk co sh a n pin ask ((0, r, cu, tr, an, sg, am, pv) : R8)).2.2.2.2.2.2.2.2 → Post (some (.int (payA nm cnt rc rk co sh a n pin ask ((0, r, cu, tr, an, sg, am, pv) : R8)).1)) h') : mMet M_Mod_pay L xs (8, 193) 0 0 [.ref 24, .long sh, .long a, .int n, .int pin, .int (nI ask)] h Post := by
  refine mMet_of rfl (Nat.le_of_ble_eq_true rfl) ?_
  refine mj_lload_n d_Mod_pay_0 rfl ?_
  refine mj_static (d' := (0, 0)) (mc := 0) (ms := 0) (As := [_]) d_Mod_pay_1 cw_Mod_isAmount q_715 q_716 rfl rfl (mRoomB rfl) ?_
  refine s_Mod_isAmount ?_
  refine mj_ifeqN d_Mod_pay_4 22 rfl (by split <;> omega) (fun c_4 => ?_) (fun c_4 => ?_)
  · refine mj_iconst d_Mod_pay_22 (-1) (by decide) ?_
    refine mj_iret d_Mod_pay_23 rfl rfl (Nat.le_refl _) (Nat.le_refl _) ?_
    refine kF (fun z => ?_) h hW
    first
      | (rw [if_pos z.1] at c_4; omega)
      | (rw [if_pos z.2.1] at c_11; omega)
      | exact c_19 z.2.2
  · refine mj_lload_n d_Mod_pay_7 rfl ?_
    refine mj_static (d' := (0, 0)) (mc := 0) (ms := 0) (As := [_]) d_Mod_pay_8 cw_Mod_isAmount q_715 q_716 rfl rfl (mRoomB rfl) ?_
    refine s_Mod_isAmount ?_
    refine mj_ifeqN d_Mod_pay_11 22 rfl (by split <;> omega) (fun c_11 => ?_) (fun c_11 => ?_)
    · refine mj_iconst d_Mod_pay_22 (-1) (by decide) ?_
      refine mj_iret d_Mod_pay_23 rfl rfl (Nat.le_refl _) (Nat.le_refl _) ?_
      refine kF (fun z => ?_) h hW
      first
        | (rw [if_pos z.1] at c_4; omega)
        | (rw [if_pos z.2.1] at c_11; omega)
        | exact c_19 z.2.2
    · refine mj_iload d_Mod_pay_14 rfl ?_
      refine mj_sipush d_Mod_pay_16 (nI 9999) (by decide) ?_
      refine mj_icmple d_Mod_pay_19 24 rfl (fun c_19 => ?_) (fun c_19 => ?_)
      · have ok1 : amtOk sh := Decidable.byContradiction (fun z => by rw [if_neg z] at c_4; omega)
        have ok2 : amtOk a := Decidable.byContradiction (fun z => by rw [if_neg z] at c_11; omega)
        have kP := kT ⟨ok1, ok2, c_19⟩
        refine mj_aload_n d_Mod_pay_24 rfl ?_
        refine mj_virtual (d' := (7, 167)) (mc := 0) (ms := 0) (As := []) d_Mod_pay_25 cw_Mod_sendSelect q_723 q_725 qs_Mod_sendSelect (ci := 6) rfl (MW_24 hW) rfl rfl (mRoomB rfl) ?_
        refine s_Mod_sendSelect hA hW (fun S1 h1 hS1 hW1 hA1 hl1 => ?_)
        have e1 : snd8 nm cnt rc rk co (selT nm) ((0, r, cu, tr, an, sg, am, pv) : R8) = S1 := hS1.symm
        refine mj_istore d_Mod_pay_28 (by decide) ?_
        dsimp only [mSt1, mSt2, mKill, Nat.reduceAdd]
        refine mj_iload d_Mod_pay_30 rfl ?_
        refine mj_ldc d_Mod_pay_32 (nI 36864) q_620 ?_
        refine mj_icmpneN d_Mod_pay_34 45 rfl (by omega) (fun c_34 => ?_) (fun c_34 => ?_)
        · refine mj_iload d_Mod_pay_45 rfl ?_
          refine mj_istore d_Mod_pay_47 (by decide) ?_
          dsimp only [mSt1, mSt2, mKill, Nat.reduceAdd]
          first
            | (have eo : S2 = opnF nm cnt rc rk co a ((0, r, cu, tr, an, sg, am, pv) : R8) := by unfold opnF; rw [e1, if_pos c_34, e2]
               unfold payA at kP; rw [← eo] at kP
               exact t_m49 hW2 hA2 hl2 hask c_19 (fun z => opn_len eo z) (fun z => opn_rdy (fun f hf => (hA.2.2.2.1 f hf).1) eo z) kP)
            | (have eo : S1 = opnF nm cnt rc rk co a ((0, r, cu, tr, an, sg, am, pv) : R8) := by unfold opnF; rw [e1, if_neg c_34]
               unfold payA at kP; rw [← eo] at kP
               exact t_m49 hW1 hA1 hl1 hask c_19 (fun z => opn_len eo z) (fun z => opn_rdy (fun f hf => (hA.2.2.2.1 f hf).1) eo z) kP)
        · refine mj_aload_n d_Mod_pay_37 rfl ?_
          refine mj_lload_n d_Mod_pay_38 rfl ?_
          refine mj_virtual (d' := (7, 167)) (mc := 0) (ms := 0) (As := [_]) d_Mod_pay_39 cw_Mod_sendReady q_736 q_738 qs_Mod_sendReady (ci := 6) rfl (MW_24 hW1) rfl rfl (mRoomB rfl) ?_
          refine s_Mod_sendReady (a := a) hA1 hW1 (fun S2 h2 hS2 hW2 hA2 hl2 => ?_)
          have e2 : snd8 nm cnt rc rk co (rdyT a) S1 = S2 := hS2.symm
          refine mj_goto d_Mod_pay_42 47 rfl ?_
          refine mj_istore d_Mod_pay_47 (by decide) ?_
          dsimp only [mSt1, mSt2, mKill, Nat.reduceAdd]
          first
            | (have eo : S2 = opnF nm cnt rc rk co a ((0, r, cu, tr, an, sg, am, pv) : R8) := by unfold opnF; rw [e1, if_pos c_34, e2]
               unfold payA at kP; rw [← eo] at kP
               exact t_m49 hW2 hA2 hl2 hask c_19 (fun z => opn_len eo z) (fun z => opn_rdy (fun f hf => (hA.2.2.2.1 f hf).1) eo z) kP)
            | (have eo : S1 = opnF nm cnt rc rk co a ((0, r, cu, tr, an, sg, am, pv) : R8) := by unfold opnF; rw [e1, if_neg c_34]
               unfold payA at kP; rw [← eo] at kP
               exact t_m49 hW1 hA1 hl1 hask c_19 (fun z => opn_len eo z) (fun z => opn_rdy (fun f hf => (hA.2.2.2.1 f hf).1) eo z) kP)
      · refine mj_iconst d_Mod_pay_22 (-1) (by decide) ?_
        refine mj_iret d_Mod_pay_23 rfl rfl (Nat.le_refl _) (Nat.le_refl _) ?_
        refine kF (fun z => ?_) h hW
        first
          | (rw [if_pos z.1] at c_4; omega)
          | (rw [if_pos z.2.1] at c_11; omega)
          | exact c_19 z.2.2
