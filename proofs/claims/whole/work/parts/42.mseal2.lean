def kP (h : mHeap) (m t b : Nat → Int32) : mHeap := eP (h.set 40 (cArr 16 m)) t b
theorem kP_get {h : mHeap} {m t b : Nat → Int32} {k : Nat} {x : mCell} (hk : h[k]? = some x) (h1 : 36 ≠ k) (h2 : 37 ≠ k) (h3 : 40 ≠ k) : (kP h m t b)[k]? = some x := eP_get (gne hk h3) h1 h2
theorem kP_36 {h : mHeap} {m t b : Nat → Int32} {x : mCell} (hk : h[36]? = some x) : (kP h m t b)[36]? = some (cArr 16 b) := eP_36 (gne (y := cArr 16 m) hk (by decide))
theorem kP_37 {h : mHeap} {m t b : Nat → Int32} {x : mCell} (hk : h[37]? = some x) : (kP h m t b)[37]? = some (cArr 16 t) := eP_37 (gne (y := cArr 16 m) hk (by decide))
theorem kP_40 {h : mHeap} {m t b : Nat → Int32} {x : mCell} (hk : h[40]? = some x) : (kP h m t b)[40]? = some (cArr 16 m) := eP_get (gself (y := cArr 16 m) hk) (by decide) (by decide)
theorem kP_s36 {h : mHeap} {m t b b' : Nat → Int32} : (kP h m t b).set 36 (cArr 16 b') = kP h m t b' := eP_s36
theorem kP_s40 {h : mHeap} {m t b m' : Nat → Int32} : (kP h m t b).set 40 (cArr 16 m') = kP h m' t b := by
  unfold kP eP
  rw [List.set_comm _ _ (show (36 : Nat) ≠ 40 by decide), List.set_comm _ _ (show (37 : Nat) ≠ 40 by decide), List.set_set]
theorem kP_eP {h : mHeap} {m t b t' b' : Nat → Int32} : eP (kP h m t b) t' b' = kP h m t' b' := by
  unfold kP eP
  rw [List.set_comm _ _ (show (36 : Nat) ≠ 37 by decide), List.set_set, List.set_set]
theorem kP_0 {h : mHeap} {m t b : Nat → Int32} (hk : h[40]? = some (cArr 16 m)) : eP h t b = kP h m t b := by unfold kP; rw [set_same hk]
theorem lr_seal {L : Nat} {xs : Nat → Int32} {Post : Option Value → mHeap → Prop} {h : mHeap} {frk fta fb0 ft0 fm0 fr0 fse : Nat → Int32} {rk : Nat → Nat} {M : List Nat} {cu tr an sg am pv tn sz : Nat} (h24 : h[24]? = some (cMod cu tr an sg am pv tn sz)) (h34 : h[34]? = some (cArr 256 fta)) (h35 : h[35]? = some (cArr 176 frk)) (h36 : h[36]? = some (cArr 16 fb0)) (h37 : h[37]? = some (cArr 16 ft0)) (h38 : h[38]? = some (cArr 64 fse)) (h39 : h[39]? = some (cArr 16 fr0)) (h40 : h[40]? = some (cArr 16 fm0)) (hta : FA 256 sbN fta) (hk : FA 176 rk frk) (hbk : Bt 176 rk) (hM : Rf M fse) (hbM : ∀ x ∈ M, x < 256) (hcap : M.length ≤ 40) {s : Nat → Nat} {wh nb : Nat} {m0 t b : Nat → Int32} {w5 w6 w7 : Option Value} (hs : FA 16 s b) (kk : ∀ f, FA 16 s f → Post none ((kP h m0 t b).set 39 (cArr 16 f))) : ∀ (m i : Nat) (f : Nat → Int32), i + m = 16 → FA i s f → mGo M_Mod_makeSeal L xs (2, 48) 0 0 Post 0 0 234 [some (.ref 24), some (.int (nI M.length)), some (.int (nI wh)), some (.int (nI nb)), some (.int (nI i)), w5, w6, w7] [] ((kP h m0 t b).set 39 (cArr 16 f)) := by
  intro m
  induction m with
  | zero =>
    intro i f hi hf
    refine mj_iload d_Mod_makeSeal_234 rfl ?_
    refine mj_bipush d_Mod_makeSeal_236 (nI 16) (by decide) ?_
    refine mj_icmpgeN d_Mod_makeSeal_238 261 rfl (by omega) (fun c_238 => ?_) (fun c_238 => ?_)
    · refine mj_vret d_Mod_makeSeal_261 rfl (Nat.le_refl _) (Nat.le_refl _) ?_
      exact kk f (FA_le hf (by omega))
    · omega
  | succ m ih =>
    intro i f hi hf
    refine mj_iload d_Mod_makeSeal_234 rfl ?_
    refine mj_bipush d_Mod_makeSeal_236 (nI 16) (by decide) ?_
    refine mj_icmpgeN d_Mod_makeSeal_238 261 rfl (by omega) (fun c_238 => ?_) (fun c_238 => ?_)
    · omega
    · refine mj_aload_n d_Mod_makeSeal_241 rfl ?_
      refine mj_get d_Mod_makeSeal_242 fd_Mod_56 (gne (kP_get h24 (by decide) (by decide) (by decide)) (by decide)) rfl ?_
      refine mj_iload d_Mod_makeSeal_245 rfl ?_
      refine mj_aload_n d_Mod_makeSeal_247 rfl ?_
      refine mj_get d_Mod_makeSeal_248 fd_Mod_47 (gne (kP_get h24 (by decide) (by decide) (by decide)) (by decide)) rfl ?_
      refine mj_iload d_Mod_makeSeal_251 rfl ?_
      refine mj_ialdN d_Mod_makeSeal_253 (gne (kP_36 h36) (by decide)) (by omega) ?_
      rw [hs _ (by omega)]
      refine mj_iastN d_Mod_makeSeal_254 (gself (kP_get h39 (by decide) (by decide) (by decide))) (by omega) ?_
      rw [List.set_set]
      refine mj_iinc d_Mod_makeSeal_255 rfl (by decide) (nI (i + 1)) (nI_1 i) ?_
      dsimp only [mSt1, mSt2, mKill, Nat.reduceAdd]
      refine mj_goto d_Mod_makeSeal_258 234 rfl ?_
      exact ih (i + 1) _ (by omega) (FA_s hf)
theorem li_sealM {L : Nat} {xs : Nat → Int32} {Post : Option Value → mHeap → Prop} {h : mHeap} {frk fta fb0 ft0 fm0 fr0 fse : Nat → Int32} {rk : Nat → Nat} {M : List Nat} {cu tr an sg am pv tn sz : Nat} (h24 : h[24]? = some (cMod cu tr an sg am pv tn sz)) (h34 : h[34]? = some (cArr 256 fta)) (h35 : h[35]? = some (cArr 176 frk)) (h36 : h[36]? = some (cArr 16 fb0)) (h37 : h[37]? = some (cArr 16 ft0)) (h38 : h[38]? = some (cArr 64 fse)) (h39 : h[39]? = some (cArr 16 fr0)) (h40 : h[40]? = some (cArr 16 fm0)) (hta : FA 256 sbN fta) (hk : FA 176 rk frk) (hbk : Bt 176 rk) (hM : Rf M fse) (hbM : ∀ x ∈ M, x < 256) (hcap : M.length ≤ 40) {fm t : Nat → Int32} {mask X : Nat → Nat} {wh nb b : Nat} (hm : FA 16 mask fm) (hbm : Bt 16 mask) (hbX : Bt 16 X) (hb : b < nb ∧ nb < 10) (ko : ∀ (t f : Nat → Int32) (w5 w6 w7 : Option Value), FA 16 (enc rk (cbcIn M mask nb X b)) f → mGo M_Mod_makeSeal L xs (2, 48) 0 0 Post 0 0 116 [some (.ref 24), some (.int (nI M.length)), some (.int (nI wh)), some (.int (nI nb)), some (.int (nI (b + 1))), w5, w6, w7] [] (kP h fm t f)) : ∀ (m i : Nat) (f : Nat → Int32) (w6 w7 : Option Value), i + m = 16 → FA 16 (pu i (cbcIn M mask nb X b) X) f → mGo M_Mod_makeSeal L xs (2, 48) 0 0 Post 0 0 125 [some (.ref 24), some (.int (nI M.length)), some (.int (nI wh)), some (.int (nI nb)), some (.int (nI b)), some (.int (nI i)), w6, w7] [] (kP h fm t f) := by
  intro m
  induction m with
  | zero =>
    intro i f w6 w7 hi hf
    refine mj_iload d_Mod_makeSeal_125 rfl ?_
    refine mj_bipush d_Mod_makeSeal_127 (nI 16) (by decide) ?_
    refine mj_icmpgeN d_Mod_makeSeal_129 221 rfl (by omega) (fun c_129 => ?_) (fun c_129 => ?_)
    · refine mj_aload_n d_Mod_makeSeal_221 rfl ?_
      refine mj_virtual (d' := (1, 24)) (mc := 0) (ms := 0) (As := []) d_Mod_makeSeal_222 cw_Mod_encipher q_663 q_665 qs_Mod_encipher (ci := 6) rfl (kP_get h24 (by decide) (by decide) (by decide)) rfl rfl (mRoomB rfl) ?_
      refine s_Mod_encipher (kP_get h24 (by decide) (by decide) (by decide)) (kP_get h34 (by decide) (by decide) (by decide)) (kP_get h35 (by decide) (by decide) (by decide)) (kP_36 h36) (kP_37 h37) hta hk (pu_e hf (by omega)) hbk (cbcIn_lt hbM hbm hbX) (fun t1 f1 hf1 => ?_)
      rw [kP_eP]
      refine mj_iinc d_Mod_makeSeal_225 rfl (by decide) (nI (b + 1)) (nI_1 b) ?_
      dsimp only [mSt1, mSt2, mKill, Nat.reduceAdd]
      refine mj_goto d_Mod_makeSeal_228 116 rfl ?_
      exact ko t1 f1 _ _ _ hf1
    · omega
  | succ m ih =>
    intro i f w6 w7 hi hf
    refine mj_iload d_Mod_makeSeal_125 rfl ?_
    refine mj_bipush d_Mod_makeSeal_127 (nI 16) (by decide) ?_
    refine mj_icmpgeN d_Mod_makeSeal_129 221 rfl (by omega) (fun c_129 => ?_) (fun c_129 => ?_)
    · omega
    · refine mj_bipush d_Mod_makeSeal_132 (nI 16) (by decide) ?_
      refine mj_iload d_Mod_makeSeal_134 rfl ?_
      refine mj_imul d_Mod_makeSeal_136 ?_
      refine mj_iload d_Mod_makeSeal_137 rfl ?_
      refine mj_iadd d_Mod_makeSeal_139 ?_
      rw [pk_mul, nI_add]
      refine mj_istore d_Mod_makeSeal_140 (by decide) ?_
      dsimp only [mSt1, mSt2, mKill, Nat.reduceAdd]
      refine mj_iload d_Mod_makeSeal_142 rfl ?_
      refine mj_iload_n d_Mod_makeSeal_144 rfl ?_
      refine mj_icmpgeN d_Mod_makeSeal_145 158 rfl (by omega) (fun c_145 => ?_) (fun c_145 => ?_)
      · refine mj_iload d_Mod_makeSeal_158 rfl ?_
        refine mj_iload_n d_Mod_makeSeal_160 rfl ?_
        refine mj_icmpneN d_Mod_makeSeal_161 170 rfl (by omega) (fun c_161 => ?_) (fun c_161 => ?_)
        · refine mj_iconst d_Mod_makeSeal_170 (nI 0) (by decide) ?_
          refine mj_istore d_Mod_makeSeal_171 (by decide) ?_
          dsimp only [mSt1, mSt2, mKill, Nat.reduceAdd]
          refine mj_iload d_Mod_makeSeal_173 rfl ?_
          refine mj_iload_n d_Mod_makeSeal_175 rfl ?_
          refine mj_iconst d_Mod_makeSeal_176 (nI 1) (by decide) ?_
          refine mj_isub d_Mod_makeSeal_177 ?_
          rw [pk_sub (by omega)]
          refine mj_icmpneN d_Mod_makeSeal_178 194 rfl (by omega) (fun c_178 => ?_) (fun c_178 => ?_)
          · refine mj_iload d_Mod_makeSeal_194 rfl ?_
            refine mj_istore d_Mod_makeSeal_196 (by decide) ?_
            dsimp only [mSt1, mSt2, mKill, Nat.reduceAdd]
            refine mj_aload_n d_Mod_makeSeal_198 rfl ?_
            refine mj_get d_Mod_makeSeal_199 fd_Mod_47 (kP_get h24 (by decide) (by decide) (by decide)) rfl ?_
            refine mj_iload d_Mod_makeSeal_202 rfl ?_
            refine mj_aload_n d_Mod_makeSeal_204 rfl ?_
            refine mj_get d_Mod_makeSeal_205 fd_Mod_47 (kP_get h24 (by decide) (by decide) (by decide)) rfl ?_
            refine mj_iload d_Mod_makeSeal_208 rfl ?_
            refine mj_ialdN d_Mod_makeSeal_210 (kP_36 h36) (by omega) ?_
            rw [hf _ (by omega), pu_hi (Nat.le_refl _)]
            refine mj_iload d_Mod_makeSeal_211 rfl ?_
            refine mj_ixor d_Mod_makeSeal_213 ?_
            rw [nI_xor]
            refine mj_iastN d_Mod_makeSeal_214 (kP_36 h36) (by omega) ?_
            rw [kP_s36]
            refine mj_iinc d_Mod_makeSeal_215 rfl (by decide) (nI (i + 1)) (nI_1 i) ?_
            dsimp only [mSt1, mSt2, mKill, Nat.reduceAdd]
            refine mj_goto d_Mod_makeSeal_218 125 rfl ?_
            refine ih (i + 1) _ _ _ (by omega) (pu_v hf ?_)
            unfold cbcIn vbF
            (repeat' split) <;> first | omega | rfl | exact (Nat.xor_assoc _ _ _).symm
          · refine mj_iload d_Mod_makeSeal_181 rfl ?_
            refine mj_aload_n d_Mod_makeSeal_183 rfl ?_
            refine mj_get d_Mod_makeSeal_184 fd_Mod_59 (kP_get h24 (by decide) (by decide) (by decide)) rfl ?_
            refine mj_iload d_Mod_makeSeal_187 rfl ?_
            refine mj_ialdN d_Mod_makeSeal_189 (kP_40 h40) (by omega) ?_
            rw [hm _ (by omega)]
            refine mj_ixor d_Mod_makeSeal_190 ?_
            rw [nI_xor]
            refine mj_goto d_Mod_makeSeal_191 196 rfl ?_
            refine mj_istore d_Mod_makeSeal_196 (by decide) ?_
            dsimp only [mSt1, mSt2, mKill, Nat.reduceAdd]
            refine mj_aload_n d_Mod_makeSeal_198 rfl ?_
            refine mj_get d_Mod_makeSeal_199 fd_Mod_47 (kP_get h24 (by decide) (by decide) (by decide)) rfl ?_
            refine mj_iload d_Mod_makeSeal_202 rfl ?_
            refine mj_aload_n d_Mod_makeSeal_204 rfl ?_
            refine mj_get d_Mod_makeSeal_205 fd_Mod_47 (kP_get h24 (by decide) (by decide) (by decide)) rfl ?_
            refine mj_iload d_Mod_makeSeal_208 rfl ?_
            refine mj_ialdN d_Mod_makeSeal_210 (kP_36 h36) (by omega) ?_
            rw [hf _ (by omega), pu_hi (Nat.le_refl _)]
            refine mj_iload d_Mod_makeSeal_211 rfl ?_
            refine mj_ixor d_Mod_makeSeal_213 ?_
            rw [nI_xor]
            refine mj_iastN d_Mod_makeSeal_214 (kP_36 h36) (by omega) ?_
            rw [kP_s36]
            refine mj_iinc d_Mod_makeSeal_215 rfl (by decide) (nI (i + 1)) (nI_1 i) ?_
            dsimp only [mSt1, mSt2, mKill, Nat.reduceAdd]
            refine mj_goto d_Mod_makeSeal_218 125 rfl ?_
            refine ih (i + 1) _ _ _ (by omega) (pu_v hf ?_)
            unfold cbcIn vbF
            (repeat' split) <;> first | omega | rfl | exact (Nat.xor_assoc _ _ _).symm
        · refine mj_sipush d_Mod_makeSeal_164 (nI 128) (by decide) ?_
          refine mj_goto d_Mod_makeSeal_167 171 rfl ?_
          refine mj_istore d_Mod_makeSeal_171 (by decide) ?_
          dsimp only [mSt1, mSt2, mKill, Nat.reduceAdd]
          refine mj_iload d_Mod_makeSeal_173 rfl ?_
          refine mj_iload_n d_Mod_makeSeal_175 rfl ?_
          refine mj_iconst d_Mod_makeSeal_176 (nI 1) (by decide) ?_
          refine mj_isub d_Mod_makeSeal_177 ?_
          rw [pk_sub (by omega)]
          refine mj_icmpneN d_Mod_makeSeal_178 194 rfl (by omega) (fun c_178 => ?_) (fun c_178 => ?_)
          · refine mj_iload d_Mod_makeSeal_194 rfl ?_
            refine mj_istore d_Mod_makeSeal_196 (by decide) ?_
            dsimp only [mSt1, mSt2, mKill, Nat.reduceAdd]
            refine mj_aload_n d_Mod_makeSeal_198 rfl ?_
            refine mj_get d_Mod_makeSeal_199 fd_Mod_47 (kP_get h24 (by decide) (by decide) (by decide)) rfl ?_
            refine mj_iload d_Mod_makeSeal_202 rfl ?_
            refine mj_aload_n d_Mod_makeSeal_204 rfl ?_
            refine mj_get d_Mod_makeSeal_205 fd_Mod_47 (kP_get h24 (by decide) (by decide) (by decide)) rfl ?_
            refine mj_iload d_Mod_makeSeal_208 rfl ?_
            refine mj_ialdN d_Mod_makeSeal_210 (kP_36 h36) (by omega) ?_
            rw [hf _ (by omega), pu_hi (Nat.le_refl _)]
            refine mj_iload d_Mod_makeSeal_211 rfl ?_
            refine mj_ixor d_Mod_makeSeal_213 ?_
            rw [nI_xor]
            refine mj_iastN d_Mod_makeSeal_214 (kP_36 h36) (by omega) ?_
            rw [kP_s36]
            refine mj_iinc d_Mod_makeSeal_215 rfl (by decide) (nI (i + 1)) (nI_1 i) ?_
            dsimp only [mSt1, mSt2, mKill, Nat.reduceAdd]
            refine mj_goto d_Mod_makeSeal_218 125 rfl ?_
            refine ih (i + 1) _ _ _ (by omega) (pu_v hf ?_)
            unfold cbcIn vbF
            (repeat' split) <;> first | omega | rfl | exact (Nat.xor_assoc _ _ _).symm
          · refine mj_iload d_Mod_makeSeal_181 rfl ?_
            refine mj_aload_n d_Mod_makeSeal_183 rfl ?_
            refine mj_get d_Mod_makeSeal_184 fd_Mod_59 (kP_get h24 (by decide) (by decide) (by decide)) rfl ?_
            refine mj_iload d_Mod_makeSeal_187 rfl ?_
            refine mj_ialdN d_Mod_makeSeal_189 (kP_40 h40) (by omega) ?_
            rw [hm _ (by omega)]
            refine mj_ixor d_Mod_makeSeal_190 ?_
            rw [nI_xor]
            refine mj_goto d_Mod_makeSeal_191 196 rfl ?_
            refine mj_istore d_Mod_makeSeal_196 (by decide) ?_
            dsimp only [mSt1, mSt2, mKill, Nat.reduceAdd]
            refine mj_aload_n d_Mod_makeSeal_198 rfl ?_
            refine mj_get d_Mod_makeSeal_199 fd_Mod_47 (kP_get h24 (by decide) (by decide) (by decide)) rfl ?_
            refine mj_iload d_Mod_makeSeal_202 rfl ?_
            refine mj_aload_n d_Mod_makeSeal_204 rfl ?_
            refine mj_get d_Mod_makeSeal_205 fd_Mod_47 (kP_get h24 (by decide) (by decide) (by decide)) rfl ?_
            refine mj_iload d_Mod_makeSeal_208 rfl ?_
            refine mj_ialdN d_Mod_makeSeal_210 (kP_36 h36) (by omega) ?_
            rw [hf _ (by omega), pu_hi (Nat.le_refl _)]
            refine mj_iload d_Mod_makeSeal_211 rfl ?_
            refine mj_ixor d_Mod_makeSeal_213 ?_
            rw [nI_xor]
            refine mj_iastN d_Mod_makeSeal_214 (kP_36 h36) (by omega) ?_
            rw [kP_s36]
            refine mj_iinc d_Mod_makeSeal_215 rfl (by decide) (nI (i + 1)) (nI_1 i) ?_
            dsimp only [mSt1, mSt2, mKill, Nat.reduceAdd]
            refine mj_goto d_Mod_makeSeal_218 125 rfl ?_
            refine ih (i + 1) _ _ _ (by omega) (pu_v hf ?_)
            unfold cbcIn vbF
            (repeat' split) <;> first | omega | rfl | exact (Nat.xor_assoc _ _ _).symm
      · refine mj_aload_n d_Mod_makeSeal_148 rfl ?_
        refine mj_get d_Mod_makeSeal_149 fd_Mod_53 (kP_get h24 (by decide) (by decide) (by decide)) rfl ?_
        refine mj_iload d_Mod_makeSeal_152 rfl ?_
        refine mj_ialdN d_Mod_makeSeal_154 (kP_get h38 (by decide) (by decide) (by decide)) (by omega) ?_
        rw [hM _ (by omega)]
        refine mj_goto d_Mod_makeSeal_155 171 rfl ?_
        refine mj_istore d_Mod_makeSeal_171 (by decide) ?_
        dsimp only [mSt1, mSt2, mKill, Nat.reduceAdd]
        refine mj_iload d_Mod_makeSeal_173 rfl ?_
        refine mj_iload_n d_Mod_makeSeal_175 rfl ?_
        refine mj_iconst d_Mod_makeSeal_176 (nI 1) (by decide) ?_
        refine mj_isub d_Mod_makeSeal_177 ?_
        rw [pk_sub (by omega)]
        refine mj_icmpneN d_Mod_makeSeal_178 194 rfl (by omega) (fun c_178 => ?_) (fun c_178 => ?_)
        · refine mj_iload d_Mod_makeSeal_194 rfl ?_
          refine mj_istore d_Mod_makeSeal_196 (by decide) ?_
          dsimp only [mSt1, mSt2, mKill, Nat.reduceAdd]
          refine mj_aload_n d_Mod_makeSeal_198 rfl ?_
          refine mj_get d_Mod_makeSeal_199 fd_Mod_47 (kP_get h24 (by decide) (by decide) (by decide)) rfl ?_
          refine mj_iload d_Mod_makeSeal_202 rfl ?_
          refine mj_aload_n d_Mod_makeSeal_204 rfl ?_
          refine mj_get d_Mod_makeSeal_205 fd_Mod_47 (kP_get h24 (by decide) (by decide) (by decide)) rfl ?_
          refine mj_iload d_Mod_makeSeal_208 rfl ?_
          refine mj_ialdN d_Mod_makeSeal_210 (kP_36 h36) (by omega) ?_
          rw [hf _ (by omega), pu_hi (Nat.le_refl _)]
          refine mj_iload d_Mod_makeSeal_211 rfl ?_
          refine mj_ixor d_Mod_makeSeal_213 ?_
          rw [nI_xor]
          refine mj_iastN d_Mod_makeSeal_214 (kP_36 h36) (by omega) ?_
          rw [kP_s36]
          refine mj_iinc d_Mod_makeSeal_215 rfl (by decide) (nI (i + 1)) (nI_1 i) ?_
          dsimp only [mSt1, mSt2, mKill, Nat.reduceAdd]
          refine mj_goto d_Mod_makeSeal_218 125 rfl ?_
          refine ih (i + 1) _ _ _ (by omega) (pu_v hf ?_)
          unfold cbcIn vbF
          (repeat' split) <;> first | omega | rfl | exact (Nat.xor_assoc _ _ _).symm
        · refine mj_iload d_Mod_makeSeal_181 rfl ?_
          refine mj_aload_n d_Mod_makeSeal_183 rfl ?_
          refine mj_get d_Mod_makeSeal_184 fd_Mod_59 (kP_get h24 (by decide) (by decide) (by decide)) rfl ?_
          refine mj_iload d_Mod_makeSeal_187 rfl ?_
          refine mj_ialdN d_Mod_makeSeal_189 (kP_40 h40) (by omega) ?_
          rw [hm _ (by omega)]
          refine mj_ixor d_Mod_makeSeal_190 ?_
          rw [nI_xor]
          refine mj_goto d_Mod_makeSeal_191 196 rfl ?_
          refine mj_istore d_Mod_makeSeal_196 (by decide) ?_
          dsimp only [mSt1, mSt2, mKill, Nat.reduceAdd]
          refine mj_aload_n d_Mod_makeSeal_198 rfl ?_
          refine mj_get d_Mod_makeSeal_199 fd_Mod_47 (kP_get h24 (by decide) (by decide) (by decide)) rfl ?_
          refine mj_iload d_Mod_makeSeal_202 rfl ?_
          refine mj_aload_n d_Mod_makeSeal_204 rfl ?_
          refine mj_get d_Mod_makeSeal_205 fd_Mod_47 (kP_get h24 (by decide) (by decide) (by decide)) rfl ?_
          refine mj_iload d_Mod_makeSeal_208 rfl ?_
          refine mj_ialdN d_Mod_makeSeal_210 (kP_36 h36) (by omega) ?_
          rw [hf _ (by omega), pu_hi (Nat.le_refl _)]
          refine mj_iload d_Mod_makeSeal_211 rfl ?_
          refine mj_ixor d_Mod_makeSeal_213 ?_
          rw [nI_xor]
          refine mj_iastN d_Mod_makeSeal_214 (kP_36 h36) (by omega) ?_
          rw [kP_s36]
          refine mj_iinc d_Mod_makeSeal_215 rfl (by decide) (nI (i + 1)) (nI_1 i) ?_
          dsimp only [mSt1, mSt2, mKill, Nat.reduceAdd]
          refine mj_goto d_Mod_makeSeal_218 125 rfl ?_
          refine ih (i + 1) _ _ _ (by omega) (pu_v hf ?_)
          unfold cbcIn vbF
          (repeat' split) <;> first | omega | rfl | exact (Nat.xor_assoc _ _ _).symm
theorem lo_sealM {L : Nat} {xs : Nat → Int32} {Post : Option Value → mHeap → Prop} {h : mHeap} {frk fta fb0 ft0 fm0 fr0 fse : Nat → Int32} {rk : Nat → Nat} {M : List Nat} {cu tr an sg am pv tn sz : Nat} (h24 : h[24]? = some (cMod cu tr an sg am pv tn sz)) (h34 : h[34]? = some (cArr 256 fta)) (h35 : h[35]? = some (cArr 176 frk)) (h36 : h[36]? = some (cArr 16 fb0)) (h37 : h[37]? = some (cArr 16 ft0)) (h38 : h[38]? = some (cArr 64 fse)) (h39 : h[39]? = some (cArr 16 fr0)) (h40 : h[40]? = some (cArr 16 fm0)) (hta : FA 256 sbN fta) (hk : FA 176 rk frk) (hbk : Bt 176 rk) (hM : Rf M fse) (hbM : ∀ x ∈ M, x < 256) (hcap : M.length ≤ 40) {fm : Nat → Int32} {mask : Nat → Nat} {wh nb : Nat} (hm : FA 16 mask fm) (hbm : Bt 16 mask) (hnb : nb < 10) (kk : ∀ fm t b f, FA 16 (cbc rk M mask nb nb) f → Post none ((kP h fm t b).set 39 (cArr 16 f))) : ∀ (m b : Nat) (t f : Nat → Int32) (w5 w6 w7 : Option Value), b + m = nb → FA 16 (cbc rk M mask nb b) f → mGo M_Mod_makeSeal L xs (2, 48) 0 0 Post 0 0 116 [some (.ref 24), some (.int (nI M.length)), some (.int (nI wh)), some (.int (nI nb)), some (.int (nI b)), w5, w6, w7] [] (kP h fm t f) := by
  intro m
  induction m with
  | zero =>
    intro b t f w5 w6 w7 hb hf
    refine mj_iload d_Mod_makeSeal_116 rfl ?_
    refine mj_iload_n d_Mod_makeSeal_118 rfl ?_
    refine mj_icmpgeN d_Mod_makeSeal_119 231 rfl (by omega) (fun c_119 => ?_) (fun c_119 => ?_)
    · refine mj_iconst d_Mod_makeSeal_231 (nI 0) (by decide) ?_
      refine mj_istore d_Mod_makeSeal_232 (by decide) ?_
      dsimp only [mSt1, mSt2, mKill, Nat.reduceAdd]
      rw [show b = nb by omega] at hf
      have e := lr_seal h24 h34 h35 h36 h37 h38 h39 h40 hta hk hbk hM hbM hcap (L := L) (xs := xs) (wh := wh) (nb := nb) (w5 := w5) (w6 := w6) (w7 := w7) hf (kk fm t f) 16 0 fr0 (by omega) (fun j hj => by omega)
      rw [set_same (kP_get h39 (by decide) (by decide) (by decide))] at e
      exact e
    · omega
  | succ m ih =>
    intro b t f w5 w6 w7 hb hf
    refine mj_iload d_Mod_makeSeal_116 rfl ?_
    refine mj_iload_n d_Mod_makeSeal_118 rfl ?_
    refine mj_icmpgeN d_Mod_makeSeal_119 231 rfl (by omega) (fun c_119 => ?_) (fun c_119 => ?_)
    · omega
    · refine mj_iconst d_Mod_makeSeal_122 (nI 0) (by decide) ?_
      refine mj_istore d_Mod_makeSeal_123 (by decide) ?_
      dsimp only [mSt1, mSt2, mKill, Nat.reduceAdd]
      exact li_sealM h24 h34 h35 h36 h37 h38 h39 h40 hta hk hbk hM hbM hcap hm hbm (cbc_lt hbk hbM hbm b) (by omega) (fun t f w5 w6 w7 hf => ih (b + 1) t f w5 w6 w7 (by omega) hf) 16 0 f _ _ (by omega) (pu_0 hf)
theorem lm_seal {L : Nat} {xs : Nat → Int32} {Post : Option Value → mHeap → Prop} {h : mHeap} {frk fta fb0 ft0 fm0 fr0 fse : Nat → Int32} {rk : Nat → Nat} {M : List Nat} {cu tr an sg am pv tn sz : Nat} (h24 : h[24]? = some (cMod cu tr an sg am pv tn sz)) (h34 : h[34]? = some (cArr 256 fta)) (h35 : h[35]? = some (cArr 176 frk)) (h36 : h[36]? = some (cArr 16 fb0)) (h37 : h[37]? = some (cArr 16 ft0)) (h38 : h[38]? = some (cArr 64 fse)) (h39 : h[39]? = some (cArr 16 fr0)) (h40 : h[40]? = some (cArr 16 fm0)) (hta : FA 256 sbN fta) (hk : FA 176 rk frk) (hbk : Bt 176 rk) (hM : Rf M fse) (hbM : ∀ x ∈ M, x < 256) (hcap : M.length ≤ 40) {wh nb : Nat} {t : Nat → Int32} {w5 w6 w7 : Option Value} (hwn : (wh = 1 ∧ (0 < M.length ∧ M.length % 16 = 0) ∧ nb = M.length / 16) ∨ (wh = 0 ∧ ¬ (0 < M.length ∧ M.length % 16 = 0) ∧ nb = M.length / 16 + 1)) (kk : ∀ fm t b f, FA 16 (sealF rk M) f → Post none ((kP h fm t b).set 39 (cArr 16 f))) : ∀ (m i : Nat) (fm b : Nat → Int32), i + m = 16 → FA i (enc rk zero) fm → FA 16 (pu i zero (enc rk zero)) b → mGo M_Mod_makeSeal L xs (2, 48) 0 0 Post 0 0 66 [some (.ref 24), some (.int (nI M.length)), some (.int (nI wh)), some (.int (nI nb)), some (.int (nI i)), w5, w6, w7] [] (kP h fm t b) := by
  intro m
  induction m with
  | zero =>
    intro i fm b hi hm hbl
    refine mj_iload d_Mod_makeSeal_66 rfl ?_
    refine mj_bipush d_Mod_makeSeal_68 (nI 16) (by decide) ?_
    refine mj_icmpgeN d_Mod_makeSeal_70 101 rfl (by omega) (fun c_70 => ?_) (fun c_70 => ?_)
    · have hm := FA_le hm (show 16 ≤ i by omega)
      refine mj_aload_n d_Mod_makeSeal_101 rfl ?_
      refine mj_virtual (d' := (0, 0)) (mc := 0) (ms := 0) (As := []) d_Mod_makeSeal_102 cw_Mod_doubleMask q_675 q_677 qs_Mod_doubleMask (ci := 6) rfl (kP_get h24 (by decide) (by decide) (by decide)) rfl rfl (mRoomB rfl) ?_
      refine s_Mod_doubleMask (kP_get h24 (by decide) (by decide) (by decide)) (kP_40 h40) hm (enc_lt hbk zero_lt) (fun fm1 hm1 => ?_)
      rw [kP_s40]
      refine mj_iload_n d_Mod_makeSeal_105 rfl ?_
      refine mj_ifneN d_Mod_makeSeal_106 113 rfl (by omega) (fun c_106 => ?_) (fun c_106 => ?_)
      · refine mj_iconst d_Mod_makeSeal_113 (nI 0) (by decide) ?_
        refine mj_istore d_Mod_makeSeal_114 (by decide) ?_
        dsimp only [mSt1, mSt2, mKill, Nat.reduceAdd]
        first
          | omega
          | (have e2 : nbk M.length = nb := by rcases hwn with ⟨z1, z2, z3⟩ | ⟨z1, z2, z3⟩ <;> (unfold nbk; first | (rw [if_pos z2]; omega) | (rw [if_neg z2]; omega))
             have e3 : maskF rk M.length = dbl (enc rk zero) := by rcases hwn with ⟨z1, z2, z3⟩ | ⟨z1, z2, z3⟩ <;> first | omega | (unfold maskF; rw [if_pos z2])
             rw [sealF, e2, e3] at kk
             exact lo_sealM h24 h34 h35 h36 h37 h38 h39 h40 hta hk hbk hM hbM hcap hm1 (dbl_lt (enc_lt hbk zero_lt)) (by omega) kk nb 0 t b _ _ _ (by omega) (pu_e hbl (by omega)))
          | (have e2 : nbk M.length = nb := by rcases hwn with ⟨z1, z2, z3⟩ | ⟨z1, z2, z3⟩ <;> (unfold nbk; first | (rw [if_pos z2]; omega) | (rw [if_neg z2]; omega))
             have e3 : maskF rk M.length = dbl (dbl (enc rk zero)) := by rcases hwn with ⟨z1, z2, z3⟩ | ⟨z1, z2, z3⟩ <;> first | omega | (unfold maskF; rw [if_neg z2])
             rw [sealF, e2, e3] at kk
             exact lo_sealM h24 h34 h35 h36 h37 h38 h39 h40 hta hk hbk hM hbM hcap hm1 (dbl_lt (dbl_lt (enc_lt hbk zero_lt))) (by omega) kk nb 0 t b _ _ _ (by omega) (pu_e hbl (by omega)))
      · refine mj_aload_n d_Mod_makeSeal_109 rfl ?_
        refine mj_virtual (d' := (0, 0)) (mc := 0) (ms := 0) (As := []) d_Mod_makeSeal_110 cw_Mod_doubleMask q_675 q_677 qs_Mod_doubleMask (ci := 6) rfl (kP_get h24 (by decide) (by decide) (by decide)) rfl rfl (mRoomB rfl) ?_
        refine s_Mod_doubleMask (kP_get h24 (by decide) (by decide) (by decide)) (kP_40 h40) hm1 (dbl_lt (enc_lt hbk zero_lt)) (fun fm1 hm1 => ?_)
        rw [kP_s40]
        refine mj_iconst d_Mod_makeSeal_113 (nI 0) (by decide) ?_
        refine mj_istore d_Mod_makeSeal_114 (by decide) ?_
        dsimp only [mSt1, mSt2, mKill, Nat.reduceAdd]
        first
          | omega
          | (have e2 : nbk M.length = nb := by rcases hwn with ⟨z1, z2, z3⟩ | ⟨z1, z2, z3⟩ <;> (unfold nbk; first | (rw [if_pos z2]; omega) | (rw [if_neg z2]; omega))
             have e3 : maskF rk M.length = dbl (enc rk zero) := by rcases hwn with ⟨z1, z2, z3⟩ | ⟨z1, z2, z3⟩ <;> first | omega | (unfold maskF; rw [if_pos z2])
             rw [sealF, e2, e3] at kk
             exact lo_sealM h24 h34 h35 h36 h37 h38 h39 h40 hta hk hbk hM hbM hcap hm1 (dbl_lt (enc_lt hbk zero_lt)) (by omega) kk nb 0 t b _ _ _ (by omega) (pu_e hbl (by omega)))
          | (have e2 : nbk M.length = nb := by rcases hwn with ⟨z1, z2, z3⟩ | ⟨z1, z2, z3⟩ <;> (unfold nbk; first | (rw [if_pos z2]; omega) | (rw [if_neg z2]; omega))
             have e3 : maskF rk M.length = dbl (dbl (enc rk zero)) := by rcases hwn with ⟨z1, z2, z3⟩ | ⟨z1, z2, z3⟩ <;> first | omega | (unfold maskF; rw [if_neg z2])
             rw [sealF, e2, e3] at kk
             exact lo_sealM h24 h34 h35 h36 h37 h38 h39 h40 hta hk hbk hM hbM hcap hm1 (dbl_lt (dbl_lt (enc_lt hbk zero_lt))) (by omega) kk nb 0 t b _ _ _ (by omega) (pu_e hbl (by omega)))
    · omega
  | succ m ih =>
    intro i fm b hi hm hbl
    refine mj_iload d_Mod_makeSeal_66 rfl ?_
    refine mj_bipush d_Mod_makeSeal_68 (nI 16) (by decide) ?_
    refine mj_icmpgeN d_Mod_makeSeal_70 101 rfl (by omega) (fun c_70 => ?_) (fun c_70 => ?_)
    · omega
    · refine mj_aload_n d_Mod_makeSeal_73 rfl ?_
      refine mj_get d_Mod_makeSeal_74 fd_Mod_59 (kP_get h24 (by decide) (by decide) (by decide)) rfl ?_
      refine mj_iload d_Mod_makeSeal_77 rfl ?_
      refine mj_aload_n d_Mod_makeSeal_79 rfl ?_
      refine mj_get d_Mod_makeSeal_80 fd_Mod_47 (kP_get h24 (by decide) (by decide) (by decide)) rfl ?_
      refine mj_iload d_Mod_makeSeal_83 rfl ?_
      refine mj_ialdN d_Mod_makeSeal_85 (kP_36 h36) (by omega) ?_
      rw [hbl _ (by omega), pu_hi (Nat.le_refl _)]
      refine mj_iastN d_Mod_makeSeal_86 (kP_40 h40) (by omega) ?_
      rw [kP_s40]
      refine mj_aload_n d_Mod_makeSeal_87 rfl ?_
      refine mj_get d_Mod_makeSeal_88 fd_Mod_47 (kP_get h24 (by decide) (by decide) (by decide)) rfl ?_
      refine mj_iload d_Mod_makeSeal_91 rfl ?_
      refine mj_iconst d_Mod_makeSeal_93 (nI 0) (by decide) ?_
      refine mj_iastN d_Mod_makeSeal_94 (kP_36 h36) (by omega) ?_
      rw [kP_s36]
      refine mj_iinc d_Mod_makeSeal_95 rfl (by decide) (nI (i + 1)) (nI_1 i) ?_
      dsimp only [mSt1, mSt2, mKill, Nat.reduceAdd]
      refine mj_goto d_Mod_makeSeal_98 66 rfl ?_
      exact ih (i + 1) _ _ (by omega) (FA_s hm) (pu_v hbl rfl)
theorem lz_seal {L : Nat} {xs : Nat → Int32} {Post : Option Value → mHeap → Prop} {h : mHeap} {frk fta fb0 ft0 fm0 fr0 fse : Nat → Int32} {rk : Nat → Nat} {M : List Nat} {cu tr an sg am pv tn sz : Nat} (h24 : h[24]? = some (cMod cu tr an sg am pv tn sz)) (h34 : h[34]? = some (cArr 256 fta)) (h35 : h[35]? = some (cArr 176 frk)) (h36 : h[36]? = some (cArr 16 fb0)) (h37 : h[37]? = some (cArr 16 ft0)) (h38 : h[38]? = some (cArr 64 fse)) (h39 : h[39]? = some (cArr 16 fr0)) (h40 : h[40]? = some (cArr 16 fm0)) (hta : FA 256 sbN fta) (hk : FA 176 rk frk) (hbk : Bt 176 rk) (hM : Rf M fse) (hbM : ∀ x ∈ M, x < 256) (hcap : M.length ≤ 40) {wh nb : Nat} {w5 w6 w7 : Option Value} (hwn : (wh = 1 ∧ (0 < M.length ∧ M.length % 16 = 0) ∧ nb = M.length / 16) ∨ (wh = 0 ∧ ¬ (0 < M.length ∧ M.length % 16 = 0) ∧ nb = M.length / 16 + 1)) (kk : ∀ fm t b f, FA 16 (sealF rk M) f → Post none ((kP h fm t b).set 39 (cArr 16 f))) : ∀ (m i : Nat) (f : Nat → Int32), i + m = 16 → FA i zero f → mGo M_Mod_makeSeal L xs (2, 48) 0 0 Post 0 0 38 [some (.ref 24), some (.int (nI M.length)), some (.int (nI wh)), some (.int (nI nb)), some (.int (nI i)), w5, w6, w7] [] (h.set 36 (cArr 16 f)) := by
  intro m
  induction m with
  | zero =>
    intro i f hi hf
    refine mj_iload d_Mod_makeSeal_38 rfl ?_
    refine mj_bipush d_Mod_makeSeal_40 (nI 16) (by decide) ?_
    refine mj_icmpgeN d_Mod_makeSeal_42 59 rfl (by omega) (fun c_42 => ?_) (fun c_42 => ?_)
    · refine mj_aload_n d_Mod_makeSeal_59 rfl ?_
      refine mj_virtual (d' := (1, 24)) (mc := 0) (ms := 0) (As := []) d_Mod_makeSeal_60 cw_Mod_encipher q_663 q_665 qs_Mod_encipher (ci := 6) rfl (gne h24 (by decide)) rfl rfl (mRoomB rfl) ?_
      refine s_Mod_encipher (gne h24 (by decide)) (gne h34 (by decide)) (gne h35 (by decide)) (gself h36) (gne h37 (by decide)) hta hk (FA_le hf (by omega)) hbk zero_lt (fun t1 f1 hf1 => ?_)
      have e0 : eP (h.set 36 (cArr 16 f)) t1 f1 = eP h t1 f1 := by unfold eP; rw [List.set_comm _ _ (show (36 : Nat) ≠ 37 by decide), List.set_set]
      rw [e0, kP_0 h40]
      refine mj_iconst d_Mod_makeSeal_63 (nI 0) (by decide) ?_
      refine mj_istore d_Mod_makeSeal_64 (by decide) ?_
      dsimp only [mSt1, mSt2, mKill, Nat.reduceAdd]
      exact lm_seal h24 h34 h35 h36 h37 h38 h39 h40 hta hk hbk hM hbM hcap hwn kk 16 0 fm0 f1 (by omega) (fun j hj => by omega) (pu_0 hf1)
    · omega
  | succ m ih =>
    intro i f hi hf
    refine mj_iload d_Mod_makeSeal_38 rfl ?_
    refine mj_bipush d_Mod_makeSeal_40 (nI 16) (by decide) ?_
    refine mj_icmpgeN d_Mod_makeSeal_42 59 rfl (by omega) (fun c_42 => ?_) (fun c_42 => ?_)
    · omega
    · refine mj_aload_n d_Mod_makeSeal_45 rfl ?_
      refine mj_get d_Mod_makeSeal_46 fd_Mod_47 (gne h24 (by decide)) rfl ?_
      refine mj_iload d_Mod_makeSeal_49 rfl ?_
      refine mj_iconst d_Mod_makeSeal_51 (nI 0) (by decide) ?_
      refine mj_iastN d_Mod_makeSeal_52 (gself h36) (by omega) ?_
      rw [List.set_set]
      refine mj_iinc d_Mod_makeSeal_53 rfl (by decide) (nI (i + 1)) (nI_1 i) ?_
      dsimp only [mSt1, mSt2, mKill, Nat.reduceAdd]
      refine mj_goto d_Mod_makeSeal_56 38 rfl ?_
      exact ih (i + 1) _ (by omega) (FA_s (g := zero) hf)
theorem s_Mod_makeSeal {L : Nat} {xs : Nat → Int32} {Post : Option Value → mHeap → Prop} {h : mHeap} {frk fta fb0 ft0 fm0 fr0 fse : Nat → Int32} {rk : Nat → Nat} {M : List Nat} {cu tr an sg am pv tn sz : Nat} (h24 : h[24]? = some (cMod cu tr an sg am pv tn sz)) (h34 : h[34]? = some (cArr 256 fta)) (h35 : h[35]? = some (cArr 176 frk)) (h36 : h[36]? = some (cArr 16 fb0)) (h37 : h[37]? = some (cArr 16 ft0)) (h38 : h[38]? = some (cArr 64 fse)) (h39 : h[39]? = some (cArr 16 fr0)) (h40 : h[40]? = some (cArr 16 fm0)) (hta : FA 256 sbN fta) (hk : FA 176 rk frk) (hbk : Bt 176 rk) (hM : Rf M fse) (hbM : ∀ x ∈ M, x < 256) (hcap : M.length ≤ 40) (kk : ∀ fm t b f, FA 16 (sealF rk M) f → Post none ((kP h fm t b).set 39 (cArr 16 f))) : mMet M_Mod_makeSeal L xs (2, 48) 0 0 [.ref 24, .int (nI M.length)] h Post := by
  refine mMet_of rfl (Nat.le_of_ble_eq_true rfl) ?_
  refine mj_iload_n d_Mod_makeSeal_0 rfl ?_
  refine mj_ifleN d_Mod_makeSeal_1 15 rfl (by omega) (fun c_1 => ?_) (fun c_1 => ?_)
  · refine mj_iconst d_Mod_makeSeal_15 (nI 0) (by decide) ?_
    refine mj_istore_n d_Mod_makeSeal_16 (by decide) ?_
    dsimp only [mSt1, mSt2, mKill, Nat.reduceAdd]
    refine mj_iload_n d_Mod_makeSeal_17 rfl ?_
    refine mj_ifeqN d_Mod_makeSeal_18 28 rfl (by omega) (fun c_18 => ?_) (fun c_18 => ?_)
    · refine mj_iload_n d_Mod_makeSeal_28 rfl ?_
      refine mj_bipush d_Mod_makeSeal_29 (nI 16) (by decide) ?_
      refine mj_idiv d_Mod_makeSeal_31 (by decide) ?_
      rw [pk_div (by omega) (by decide) (by decide)]
      refine mj_iconst d_Mod_makeSeal_32 (nI 1) (by decide) ?_
      refine mj_iadd d_Mod_makeSeal_33 ?_
      rw [nI_add]
      refine mj_istore_n d_Mod_makeSeal_34 (by decide) ?_
      dsimp only [mSt1, mSt2, mKill, Nat.reduceAdd]
      refine mj_iconst d_Mod_makeSeal_35 (nI 0) (by decide) ?_
      refine mj_istore d_Mod_makeSeal_36 (by decide) ?_
      dsimp only [mSt1, mSt2, mKill, Nat.reduceAdd]
      first
        | omega
        | (have e := lz_seal h24 h34 h35 h36 h37 h38 h39 h40 hta hk hbk hM hbM hcap (L := L) (xs := xs) (wh := 1) (nb := M.length / 16) (w5 := none) (w6 := none) (w7 := none) (Or.inl ⟨rfl, by omega, rfl⟩) kk 16 0 fb0 (by omega) (fun j hj => by omega)
           rw [set_same h36] at e
           exact e)
        | (have e := lz_seal h24 h34 h35 h36 h37 h38 h39 h40 hta hk hbk hM hbM hcap (L := L) (xs := xs) (wh := 0) (nb := M.length / 16 + 1) (w5 := none) (w6 := none) (w7 := none) (Or.inr ⟨rfl, by omega, rfl⟩) kk 16 0 fb0 (by omega) (fun j hj => by omega)
           rw [set_same h36] at e
           exact e)
    · refine mj_iload_n d_Mod_makeSeal_21 rfl ?_
      refine mj_bipush d_Mod_makeSeal_22 (nI 16) (by decide) ?_
      refine mj_idiv d_Mod_makeSeal_24 (by decide) ?_
      rw [pk_div (by omega) (by decide) (by decide)]
      refine mj_goto d_Mod_makeSeal_25 34 rfl ?_
      refine mj_istore_n d_Mod_makeSeal_34 (by decide) ?_
      dsimp only [mSt1, mSt2, mKill, Nat.reduceAdd]
      refine mj_iconst d_Mod_makeSeal_35 (nI 0) (by decide) ?_
      refine mj_istore d_Mod_makeSeal_36 (by decide) ?_
      dsimp only [mSt1, mSt2, mKill, Nat.reduceAdd]
      first
        | omega
        | (have e := lz_seal h24 h34 h35 h36 h37 h38 h39 h40 hta hk hbk hM hbM hcap (L := L) (xs := xs) (wh := 1) (nb := M.length / 16) (w5 := none) (w6 := none) (w7 := none) (Or.inl ⟨rfl, by omega, rfl⟩) kk 16 0 fb0 (by omega) (fun j hj => by omega)
           rw [set_same h36] at e
           exact e)
        | (have e := lz_seal h24 h34 h35 h36 h37 h38 h39 h40 hta hk hbk hM hbM hcap (L := L) (xs := xs) (wh := 0) (nb := M.length / 16 + 1) (w5 := none) (w6 := none) (w7 := none) (Or.inr ⟨rfl, by omega, rfl⟩) kk 16 0 fb0 (by omega) (fun j hj => by omega)
           rw [set_same h36] at e
           exact e)
  · refine mj_iload_n d_Mod_makeSeal_4 rfl ?_
    refine mj_bipush d_Mod_makeSeal_5 (nI 16) (by decide) ?_
    refine mj_irem d_Mod_makeSeal_7 (by decide) ?_
    rw [pk_rem (by omega) (by decide) (by decide)]
    refine mj_ifneN d_Mod_makeSeal_8 15 rfl (by omega) (fun c_8 => ?_) (fun c_8 => ?_)
    · refine mj_iconst d_Mod_makeSeal_15 (nI 0) (by decide) ?_
      refine mj_istore_n d_Mod_makeSeal_16 (by decide) ?_
      dsimp only [mSt1, mSt2, mKill, Nat.reduceAdd]
      refine mj_iload_n d_Mod_makeSeal_17 rfl ?_
      refine mj_ifeqN d_Mod_makeSeal_18 28 rfl (by omega) (fun c_18 => ?_) (fun c_18 => ?_)
      · refine mj_iload_n d_Mod_makeSeal_28 rfl ?_
        refine mj_bipush d_Mod_makeSeal_29 (nI 16) (by decide) ?_
        refine mj_idiv d_Mod_makeSeal_31 (by decide) ?_
        rw [pk_div (by omega) (by decide) (by decide)]
        refine mj_iconst d_Mod_makeSeal_32 (nI 1) (by decide) ?_
        refine mj_iadd d_Mod_makeSeal_33 ?_
        rw [nI_add]
        refine mj_istore_n d_Mod_makeSeal_34 (by decide) ?_
        dsimp only [mSt1, mSt2, mKill, Nat.reduceAdd]
        refine mj_iconst d_Mod_makeSeal_35 (nI 0) (by decide) ?_
        refine mj_istore d_Mod_makeSeal_36 (by decide) ?_
        dsimp only [mSt1, mSt2, mKill, Nat.reduceAdd]
        first
          | omega
          | (have e := lz_seal h24 h34 h35 h36 h37 h38 h39 h40 hta hk hbk hM hbM hcap (L := L) (xs := xs) (wh := 1) (nb := M.length / 16) (w5 := none) (w6 := none) (w7 := none) (Or.inl ⟨rfl, by omega, rfl⟩) kk 16 0 fb0 (by omega) (fun j hj => by omega)
             rw [set_same h36] at e
             exact e)
          | (have e := lz_seal h24 h34 h35 h36 h37 h38 h39 h40 hta hk hbk hM hbM hcap (L := L) (xs := xs) (wh := 0) (nb := M.length / 16 + 1) (w5 := none) (w6 := none) (w7 := none) (Or.inr ⟨rfl, by omega, rfl⟩) kk 16 0 fb0 (by omega) (fun j hj => by omega)
             rw [set_same h36] at e
             exact e)
      · refine mj_iload_n d_Mod_makeSeal_21 rfl ?_
        refine mj_bipush d_Mod_makeSeal_22 (nI 16) (by decide) ?_
        refine mj_idiv d_Mod_makeSeal_24 (by decide) ?_
        rw [pk_div (by omega) (by decide) (by decide)]
        refine mj_goto d_Mod_makeSeal_25 34 rfl ?_
        refine mj_istore_n d_Mod_makeSeal_34 (by decide) ?_
        dsimp only [mSt1, mSt2, mKill, Nat.reduceAdd]
        refine mj_iconst d_Mod_makeSeal_35 (nI 0) (by decide) ?_
        refine mj_istore d_Mod_makeSeal_36 (by decide) ?_
        dsimp only [mSt1, mSt2, mKill, Nat.reduceAdd]
        first
          | omega
          | (have e := lz_seal h24 h34 h35 h36 h37 h38 h39 h40 hta hk hbk hM hbM hcap (L := L) (xs := xs) (wh := 1) (nb := M.length / 16) (w5 := none) (w6 := none) (w7 := none) (Or.inl ⟨rfl, by omega, rfl⟩) kk 16 0 fb0 (by omega) (fun j hj => by omega)
             rw [set_same h36] at e
             exact e)
          | (have e := lz_seal h24 h34 h35 h36 h37 h38 h39 h40 hta hk hbk hM hbM hcap (L := L) (xs := xs) (wh := 0) (nb := M.length / 16 + 1) (w5 := none) (w6 := none) (w7 := none) (Or.inr ⟨rfl, by omega, rfl⟩) kk 16 0 fb0 (by omega) (fun j hj => by omega)
             rw [set_same h36] at e
             exact e)
    · refine mj_iconst d_Mod_makeSeal_11 (nI 1) (by decide) ?_
      refine mj_goto d_Mod_makeSeal_12 16 rfl ?_
      refine mj_istore_n d_Mod_makeSeal_16 (by decide) ?_
      dsimp only [mSt1, mSt2, mKill, Nat.reduceAdd]
      refine mj_iload_n d_Mod_makeSeal_17 rfl ?_
      refine mj_ifeqN d_Mod_makeSeal_18 28 rfl (by omega) (fun c_18 => ?_) (fun c_18 => ?_)
      · refine mj_iload_n d_Mod_makeSeal_28 rfl ?_
        refine mj_bipush d_Mod_makeSeal_29 (nI 16) (by decide) ?_
        refine mj_idiv d_Mod_makeSeal_31 (by decide) ?_
        rw [pk_div (by omega) (by decide) (by decide)]
        refine mj_iconst d_Mod_makeSeal_32 (nI 1) (by decide) ?_
        refine mj_iadd d_Mod_makeSeal_33 ?_
        rw [nI_add]
        refine mj_istore_n d_Mod_makeSeal_34 (by decide) ?_
        dsimp only [mSt1, mSt2, mKill, Nat.reduceAdd]
        refine mj_iconst d_Mod_makeSeal_35 (nI 0) (by decide) ?_
        refine mj_istore d_Mod_makeSeal_36 (by decide) ?_
        dsimp only [mSt1, mSt2, mKill, Nat.reduceAdd]
        first
          | omega
          | (have e := lz_seal h24 h34 h35 h36 h37 h38 h39 h40 hta hk hbk hM hbM hcap (L := L) (xs := xs) (wh := 1) (nb := M.length / 16) (w5 := none) (w6 := none) (w7 := none) (Or.inl ⟨rfl, by omega, rfl⟩) kk 16 0 fb0 (by omega) (fun j hj => by omega)
             rw [set_same h36] at e
             exact e)
          | (have e := lz_seal h24 h34 h35 h36 h37 h38 h39 h40 hta hk hbk hM hbM hcap (L := L) (xs := xs) (wh := 0) (nb := M.length / 16 + 1) (w5 := none) (w6 := none) (w7 := none) (Or.inr ⟨rfl, by omega, rfl⟩) kk 16 0 fb0 (by omega) (fun j hj => by omega)
             rw [set_same h36] at e
             exact e)
      · refine mj_iload_n d_Mod_makeSeal_21 rfl ?_
        refine mj_bipush d_Mod_makeSeal_22 (nI 16) (by decide) ?_
        refine mj_idiv d_Mod_makeSeal_24 (by decide) ?_
        rw [pk_div (by omega) (by decide) (by decide)]
        refine mj_goto d_Mod_makeSeal_25 34 rfl ?_
        refine mj_istore_n d_Mod_makeSeal_34 (by decide) ?_
        dsimp only [mSt1, mSt2, mKill, Nat.reduceAdd]
        refine mj_iconst d_Mod_makeSeal_35 (nI 0) (by decide) ?_
        refine mj_istore d_Mod_makeSeal_36 (by decide) ?_
        dsimp only [mSt1, mSt2, mKill, Nat.reduceAdd]
        first
          | omega
          | (have e := lz_seal h24 h34 h35 h36 h37 h38 h39 h40 hta hk hbk hM hbM hcap (L := L) (xs := xs) (wh := 1) (nb := M.length / 16) (w5 := none) (w6 := none) (w7 := none) (Or.inl ⟨rfl, by omega, rfl⟩) kk 16 0 fb0 (by omega) (fun j hj => by omega)
             rw [set_same h36] at e
             exact e)
          | (have e := lz_seal h24 h34 h35 h36 h37 h38 h39 h40 hta hk hbk hM hbM hcap (L := L) (xs := xs) (wh := 0) (nb := M.length / 16 + 1) (w5 := none) (w6 := none) (w7 := none) (Or.inr ⟨rfl, by omega, rfl⟩) kk 16 0 fb0 (by omega) (fun j hj => by omega)
             rw [set_same h36] at e
             exact e)
theorem sh40 : ∀ i : Nat, i < 6 → (((nI 40 - nI 8 * nI i).toInt64 &&& 63).toBitVec.smod 64).toNat = 8 * (5 - i) := by decide +kernel
theorem sh24 : ∀ i : Nat, i < 4 → (((nI 24 - nI 8 * nI i) &&& 31).toBitVec.smod 32).toNat = 8 * (3 - i) := by decide +kernel
theorem i_b3' (n s : Int32) (i : Nat) (hs : (s.toBitVec.smod 32).toNat = 8 * i) (hi : i < 4) : (n >>> s) &&& nI 255 = nI (byteI n i) := i_b3 n s i hs hi
theorem nI_sh8 {t : Nat} (h : t < 65536) : nI t >>> (nI 8 &&& 31) = nI (t / 256) := i_sh8 h
def pmF (a : Int64) (n : Int32) (cu gv pv : Nat) : Nat → Nat := fun j => if j < 6 then byteN a (5 - j) else if j < 10 then byteI n (9 - j) else if j = 10 then cu / 256 else if j = 11 then cu % 256 else if j = 12 then gv else if pv = 0 then 0 else 1
theorem pmF_ok {a : Int64} {n : Int32} {cu gv pv : Nat} {f : Nat → Int32} (hu : cu < 65536) (h : FA 14 (pmF a n cu gv pv) f) : Rf (payM a n.toInt64 (lN cu) gv pv) f := by
  intro j hj
  rw [payM_len] at hj
  rw [h j hj]
  congr 1
  have e : payM a n.toInt64 (lN cu) gv pv = [byteN a 5, byteN a 4, byteN a 3, byteN a 2, byteN a 1, byteN a 0, byteI n 3, byteI n 2, byteI n 1, byteI n 0, cu / 256, cu % 256, gv, if pv = 0 then 0 else 1] := by
    unfold payM
    rw [beL_2 hu]
    simp only [beL, byteI_l n 3 (by decide), byteI_l n 2 (by decide), byteI_l n 1 (by decide), byteI_l n 0 (by decide), List.cons_append, List.nil_append]
  rw [e]
  rcases (show j = 0 ∨ j = 1 ∨ j = 2 ∨ j = 3 ∨ j = 4 ∨ j = 5 ∨ j = 6 ∨ j = 7 ∨ j = 8 ∨ j = 9 ∨ j = 10 ∨ j = 11 ∨ j = 12 ∨ j = 13 by omega) with rfl | rfl | rfl | rfl | rfl | rfl | rfl | rfl | rfl | rfl | rfl | rfl | rfl | rfl <;> rfl
theorem l2_pay {L : Nat} {xs : Nat → Int32} {Post : Option Value → mHeap → Prop} {h : mHeap} {frk fta fb0 ft0 fm0 fr0 fse : Nat → Int32} {rk : Nat → Nat} {cu tr an sg am pv tn sz : Nat} (h24 : h[24]? = some (cMod cu tr an sg am pv tn sz)) (h34 : h[34]? = some (cArr 256 fta)) (h35 : h[35]? = some (cArr 176 frk)) (h36 : h[36]? = some (cArr 16 fb0)) (h37 : h[37]? = some (cArr 16 ft0)) (h38 : h[38]? = some (cArr 64 fse)) (h39 : h[39]? = some (cArr 16 fr0)) (h40 : h[40]? = some (cArr 16 fm0)) (hta : FA 256 sbN fta) (hk : FA 176 rk frk) (hbk : Bt 176 rk) {a : Int64} {n : Int32} {cv gv good : Nat} (hcv : cv < 65536) (hgv : gv < 256) (hgd : good < 2) (kk : ∀ fse2 fm t b f, FA 16 (sealF rk (payM a n.toInt64 (lN cv) gv good)) f → Post none ((kP (h.set 38 (cArr 64 fse2)) fm t b).set 39 (cArr 16 f))) : ∀ (m i : Nat) (f : Nat → Int32), i + m = 4 → FA (6 + i) (pmF a n cv gv good) f → mGo M_Mod_sealPayment L xs (3, 75) 0 0 Post 0 0 41 [some (.ref 24), some (.long a), none, some (.int n), some (.int (nI cv)), some (.int (nI gv)), some (.int (nI good)), some (.int (nI i))] [] (h.set 38 (cArr 64 f)) := by
  intro m
  induction m with
  | zero =>
    intro i f hi hf
    refine mj_iload d_Mod_sealPayment_41 rfl ?_
    refine mj_iconst d_Mod_sealPayment_43 (nI 4) (by decide) ?_
    refine mj_icmpgeN d_Mod_sealPayment_44 77 rfl (by omega) (fun c_44 => ?_) (fun c_44 => ?_)
    · refine mj_aload_n d_Mod_sealPayment_77 rfl ?_
      refine mj_get d_Mod_sealPayment_78 fd_Mod_53 (gne h24 (by decide)) rfl ?_
      refine mj_bipush d_Mod_sealPayment_81 (nI 10) (by decide) ?_
      refine mj_iload d_Mod_sealPayment_83 rfl ?_
      refine mj_bipush d_Mod_sealPayment_85 (nI 8) (by decide) ?_
      refine mj_ishr d_Mod_sealPayment_87 ?_
      rw [nI_sh8 hcv]
      refine mj_iastN d_Mod_sealPayment_88 (gself h38) (by omega) ?_
      rw [List.set_set]
      refine mj_aload_n d_Mod_sealPayment_89 rfl ?_
      refine mj_get d_Mod_sealPayment_90 fd_Mod_53 (gne h24 (by decide)) rfl ?_
      refine mj_bipush d_Mod_sealPayment_93 (nI 11) (by decide) ?_
      refine mj_iload d_Mod_sealPayment_95 rfl ?_
      refine mj_sipush d_Mod_sealPayment_97 (nI 255) (by decide) ?_
      refine mj_iand d_Mod_sealPayment_100 ?_
      rw [nI_and255 (by omega)]
      refine mj_iastN d_Mod_sealPayment_101 (gself h38) (by omega) ?_
      rw [List.set_set]
      refine mj_aload_n d_Mod_sealPayment_102 rfl ?_
      refine mj_get d_Mod_sealPayment_103 fd_Mod_53 (gne h24 (by decide)) rfl ?_
      refine mj_bipush d_Mod_sealPayment_106 (nI 12) (by decide) ?_
      refine mj_iload d_Mod_sealPayment_108 rfl ?_
      refine mj_iastN d_Mod_sealPayment_110 (gself h38) (by omega) ?_
      rw [List.set_set]
      refine mj_aload_n d_Mod_sealPayment_111 rfl ?_
      refine mj_get d_Mod_sealPayment_112 fd_Mod_53 (gne h24 (by decide)) rfl ?_
      refine mj_bipush d_Mod_sealPayment_115 (nI 13) (by decide) ?_
      refine mj_iload d_Mod_sealPayment_117 rfl ?_
      refine mj_ifeqN d_Mod_sealPayment_119 126 rfl (by omega) (fun c_119 => ?_) (fun c_119 => ?_)
      · refine mj_iconst d_Mod_sealPayment_126 (nI 0) (by decide) ?_
        refine mj_iastN d_Mod_sealPayment_127 (gself h38) (by omega) ?_
        rw [List.set_set]
        have hf := FA_le hf (show 10 ≤ 6 + i by omega)
        have f1 := FA_s hf
        have f2 := FA_s f1
        have f3 := FA_s f2
        have f4 := FA_s f3
        rw [show (pmF a n cv gv good) 10 = cv / 256 from rfl, show (pmF a n cv gv good) (10 + 1) = cv % 256 from rfl, show (pmF a n cv gv good) (10 + 1 + 1) = gv from rfl] at f4
        refine mj_aload_n d_Mod_sealPayment_128 rfl ?_
        refine mj_bipush d_Mod_sealPayment_129 (nI 14) (by decide) ?_
        refine mj_virtual (d' := (2, 48)) (mc := 0) (ms := 0) (As := [_]) d_Mod_sealPayment_131 cw_Mod_makeSeal q_659 q_661 qs_Mod_makeSeal (ci := 6) rfl (gne h24 (by decide)) rfl rfl (mRoomB rfl) ?_
        first
          | omega
          | (rw [show (pmF a n cv gv good) (10 + 1 + 1 + 1) = 1 by unfold pmF; rw [if_neg (by decide), if_neg (by decide), if_neg (by decide), if_neg (by decide), if_neg (by decide), if_neg c_119]] at f4
             have hM := pmF_ok hcv f4
             have e14 : nI 14 = nI (payM a n.toInt64 (lN cv) gv good).length := by rw [payM_len]
             rw [e14]
             refine s_Mod_makeSeal (gne h24 (by decide)) (gne h34 (by decide)) (gne h35 (by decide)) (gne h36 (by decide)) (gne h37 (by decide)) (gself h38) (gne h39 (by decide)) (gne h40 (by decide)) hta hk hbk hM (payM_lt hgv) (by rw [payM_len]; decide) (fun fm t b f hf => ?_)
             refine mj_vret d_Mod_sealPayment_134 rfl (Nat.le_refl _) (Nat.le_refl _) ?_
             exact kk _ fm t b f hf)
          | (rw [show (pmF a n cv gv good) (10 + 1 + 1 + 1) = 0 by unfold pmF; rw [if_neg (by decide), if_neg (by decide), if_neg (by decide), if_neg (by decide), if_neg (by decide), if_pos c_119]] at f4
             have hM := pmF_ok hcv f4
             have e14 : nI 14 = nI (payM a n.toInt64 (lN cv) gv good).length := by rw [payM_len]
             rw [e14]
             refine s_Mod_makeSeal (gne h24 (by decide)) (gne h34 (by decide)) (gne h35 (by decide)) (gne h36 (by decide)) (gne h37 (by decide)) (gself h38) (gne h39 (by decide)) (gne h40 (by decide)) hta hk hbk hM (payM_lt hgv) (by rw [payM_len]; decide) (fun fm t b f hf => ?_)
             refine mj_vret d_Mod_sealPayment_134 rfl (Nat.le_refl _) (Nat.le_refl _) ?_
             exact kk _ fm t b f hf)
      · refine mj_iconst d_Mod_sealPayment_122 (nI 1) (by decide) ?_
        refine mj_goto d_Mod_sealPayment_123 127 rfl ?_
        refine mj_iastN d_Mod_sealPayment_127 (gself h38) (by omega) ?_
        rw [List.set_set]
        have hf := FA_le hf (show 10 ≤ 6 + i by omega)
        have f1 := FA_s hf
        have f2 := FA_s f1
        have f3 := FA_s f2
        have f4 := FA_s f3
        rw [show (pmF a n cv gv good) 10 = cv / 256 from rfl, show (pmF a n cv gv good) (10 + 1) = cv % 256 from rfl, show (pmF a n cv gv good) (10 + 1 + 1) = gv from rfl] at f4
        refine mj_aload_n d_Mod_sealPayment_128 rfl ?_
        refine mj_bipush d_Mod_sealPayment_129 (nI 14) (by decide) ?_
        refine mj_virtual (d' := (2, 48)) (mc := 0) (ms := 0) (As := [_]) d_Mod_sealPayment_131 cw_Mod_makeSeal q_659 q_661 qs_Mod_makeSeal (ci := 6) rfl (gne h24 (by decide)) rfl rfl (mRoomB rfl) ?_
        first
          | omega
          | (rw [show (pmF a n cv gv good) (10 + 1 + 1 + 1) = 1 by unfold pmF; rw [if_neg (by decide), if_neg (by decide), if_neg (by decide), if_neg (by decide), if_neg (by decide), if_neg c_119]] at f4
             have hM := pmF_ok hcv f4
             have e14 : nI 14 = nI (payM a n.toInt64 (lN cv) gv good).length := by rw [payM_len]
             rw [e14]
             refine s_Mod_makeSeal (gne h24 (by decide)) (gne h34 (by decide)) (gne h35 (by decide)) (gne h36 (by decide)) (gne h37 (by decide)) (gself h38) (gne h39 (by decide)) (gne h40 (by decide)) hta hk hbk hM (payM_lt hgv) (by rw [payM_len]; decide) (fun fm t b f hf => ?_)
             refine mj_vret d_Mod_sealPayment_134 rfl (Nat.le_refl _) (Nat.le_refl _) ?_
             exact kk _ fm t b f hf)
          | (rw [show (pmF a n cv gv good) (10 + 1 + 1 + 1) = 0 by unfold pmF; rw [if_neg (by decide), if_neg (by decide), if_neg (by decide), if_neg (by decide), if_neg (by decide), if_pos c_119]] at f4
             have hM := pmF_ok hcv f4
             have e14 : nI 14 = nI (payM a n.toInt64 (lN cv) gv good).length := by rw [payM_len]
             rw [e14]
             refine s_Mod_makeSeal (gne h24 (by decide)) (gne h34 (by decide)) (gne h35 (by decide)) (gne h36 (by decide)) (gne h37 (by decide)) (gself h38) (gne h39 (by decide)) (gne h40 (by decide)) hta hk hbk hM (payM_lt hgv) (by rw [payM_len]; decide) (fun fm t b f hf => ?_)
             refine mj_vret d_Mod_sealPayment_134 rfl (Nat.le_refl _) (Nat.le_refl _) ?_
             exact kk _ fm t b f hf)
    · omega
  | succ m ih =>
    intro i f hi hf
    refine mj_iload d_Mod_sealPayment_41 rfl ?_
    refine mj_iconst d_Mod_sealPayment_43 (nI 4) (by decide) ?_
    refine mj_icmpgeN d_Mod_sealPayment_44 77 rfl (by omega) (fun c_44 => ?_) (fun c_44 => ?_)
    · omega
    · refine mj_aload_n d_Mod_sealPayment_47 rfl ?_
      refine mj_get d_Mod_sealPayment_48 fd_Mod_53 (gne h24 (by decide)) rfl ?_
      refine mj_bipush d_Mod_sealPayment_51 (nI 6) (by decide) ?_
      refine mj_iload d_Mod_sealPayment_53 rfl ?_
      refine mj_iadd d_Mod_sealPayment_55 ?_
      rw [nI_add]
      refine mj_iload_n d_Mod_sealPayment_56 rfl ?_
      refine mj_bipush d_Mod_sealPayment_57 (nI 24) (by decide) ?_
      refine mj_bipush d_Mod_sealPayment_59 (nI 8) (by decide) ?_
      refine mj_iload d_Mod_sealPayment_61 rfl ?_
      refine mj_imul d_Mod_sealPayment_63 ?_
      refine mj_isub d_Mod_sealPayment_64 ?_
      refine mj_ishr d_Mod_sealPayment_65 ?_
      refine mj_sipush d_Mod_sealPayment_66 (nI 255) (by decide) ?_
      refine mj_iand d_Mod_sealPayment_69 ?_
      rw [i_b3' _ _ (3 - i) (sh24 i (by omega)) (by omega)]
      refine mj_iastN d_Mod_sealPayment_70 (gself h38) (by omega) ?_
      rw [List.set_set]
      refine mj_iinc d_Mod_sealPayment_71 rfl (by decide) (nI (i + 1)) (nI_1 i) ?_
      dsimp only [mSt1, mSt2, mKill, Nat.reduceAdd]
      refine mj_goto d_Mod_sealPayment_74 41 rfl ?_
      have e := FA_s hf
      rw [show (pmF a n cv gv good) (6 + i) = byteI n (3 - i) by unfold pmF; rw [if_neg (by omega), if_pos (by omega), show 9 - (6 + i) = 3 - i by omega]] at e
      exact ih (i + 1) _ (by omega) e
theorem l1_pay {L : Nat} {xs : Nat → Int32} {Post : Option Value → mHeap → Prop} {h : mHeap} {frk fta fb0 ft0 fm0 fr0 fse : Nat → Int32} {rk : Nat → Nat} {cu tr an sg am pv tn sz : Nat} (h24 : h[24]? = some (cMod cu tr an sg am pv tn sz)) (h34 : h[34]? = some (cArr 256 fta)) (h35 : h[35]? = some (cArr 176 frk)) (h36 : h[36]? = some (cArr 16 fb0)) (h37 : h[37]? = some (cArr 16 ft0)) (h38 : h[38]? = some (cArr 64 fse)) (h39 : h[39]? = some (cArr 16 fr0)) (h40 : h[40]? = some (cArr 16 fm0)) (hta : FA 256 sbN fta) (hk : FA 176 rk frk) (hbk : Bt 176 rk) {a : Int64} {n : Int32} {cv gv good : Nat} (hcv : cv < 65536) (hgv : gv < 256) (hgd : good < 2) (kk : ∀ fse2 fm t b f, FA 16 (sealF rk (payM a n.toInt64 (lN cv) gv good)) f → Post none ((kP (h.set 38 (cArr 64 fse2)) fm t b).set 39 (cArr 16 f))) : ∀ (m i : Nat) (f : Nat → Int32), i + m = 6 → FA i (pmF a n cv gv good) f → mGo M_Mod_sealPayment L xs (3, 75) 0 0 Post 0 0 3 [some (.ref 24), some (.long a), none, some (.int n), some (.int (nI cv)), some (.int (nI gv)), some (.int (nI good)), some (.int (nI i))] [] (h.set 38 (cArr 64 f)) := by
  intro m
  induction m with
  | zero =>
    intro i f hi hf
    refine mj_iload d_Mod_sealPayment_3 rfl ?_
    refine mj_bipush d_Mod_sealPayment_5 (nI 6) (by decide) ?_
    refine mj_icmpgeN d_Mod_sealPayment_7 38 rfl (by omega) (fun c_7 => ?_) (fun c_7 => ?_)
    · refine mj_iconst d_Mod_sealPayment_38 (nI 0) (by decide) ?_
      refine mj_istore d_Mod_sealPayment_39 (by decide) ?_
      dsimp only [mSt1, mSt2, mKill, Nat.reduceAdd]
      exact l2_pay h24 h34 h35 h36 h37 h38 h39 h40 hta hk hbk hcv hgv hgd kk 4 0 f (by omega) (FA_le hf (by omega))
    · omega
  | succ m ih =>
    intro i f hi hf
    refine mj_iload d_Mod_sealPayment_3 rfl ?_
    refine mj_bipush d_Mod_sealPayment_5 (nI 6) (by decide) ?_
    refine mj_icmpgeN d_Mod_sealPayment_7 38 rfl (by omega) (fun c_7 => ?_) (fun c_7 => ?_)
    · omega
    · refine mj_aload_n d_Mod_sealPayment_10 rfl ?_
      refine mj_get d_Mod_sealPayment_11 fd_Mod_53 (gne h24 (by decide)) rfl ?_
      refine mj_iload d_Mod_sealPayment_14 rfl ?_
      refine mj_lload_n d_Mod_sealPayment_16 rfl ?_
      refine mj_bipush d_Mod_sealPayment_17 (nI 40) (by decide) ?_
      refine mj_bipush d_Mod_sealPayment_19 (nI 8) (by decide) ?_
      refine mj_iload d_Mod_sealPayment_21 rfl ?_
      refine mj_imul d_Mod_sealPayment_23 ?_
      refine mj_isub d_Mod_sealPayment_24 ?_
      refine mj_lshr d_Mod_sealPayment_25 ?_
      refine mj_ldc2 d_Mod_sealPayment_26 255 q_658 ?_
      refine mj_land d_Mod_sealPayment_29 ?_
      refine mj_l2i d_Mod_sealPayment_30 ?_
      rw [l_b2 _ _ (5 - i) (sh40 i (by omega)) (by omega)]
      refine mj_iastN d_Mod_sealPayment_31 (gself h38) (by omega) ?_
      rw [List.set_set]
      refine mj_iinc d_Mod_sealPayment_32 rfl (by decide) (nI (i + 1)) (nI_1 i) ?_
      dsimp only [mSt1, mSt2, mKill, Nat.reduceAdd]
      refine mj_goto d_Mod_sealPayment_35 3 rfl ?_
      have e := FA_s hf
      rw [show (pmF a n cv gv good) i = byteN a (5 - i) by unfold pmF; rw [if_pos (by omega)]] at e
      exact ih (i + 1) _ (by omega) e
theorem s_Mod_sealPayment {L : Nat} {xs : Nat → Int32} {Post : Option Value → mHeap → Prop} {h : mHeap} {frk fta fb0 ft0 fm0 fr0 fse : Nat → Int32} {rk : Nat → Nat} {cu tr an sg am pv tn sz : Nat} (h24 : h[24]? = some (cMod cu tr an sg am pv tn sz)) (h34 : h[34]? = some (cArr 256 fta)) (h35 : h[35]? = some (cArr 176 frk)) (h36 : h[36]? = some (cArr 16 fb0)) (h37 : h[37]? = some (cArr 16 ft0)) (h38 : h[38]? = some (cArr 64 fse)) (h39 : h[39]? = some (cArr 16 fr0)) (h40 : h[40]? = some (cArr 16 fm0)) (hta : FA 256 sbN fta) (hk : FA 176 rk frk) (hbk : Bt 176 rk) {a : Int64} {n : Int32} {cv gv good : Nat} (hcv : cv < 65536) (hgv : gv < 256) (hgd : good < 2) (kk : ∀ fse2 fm t b f, FA 16 (sealF rk (payM a n.toInt64 (lN cv) gv good)) f → Post none ((kP (h.set 38 (cArr 64 fse2)) fm t b).set 39 (cArr 16 f))) : mMet M_Mod_sealPayment L xs (3, 75) 0 0 [.ref 24, .long a, .int n, .int (nI cv), .int (nI gv), .int (nI good)] h Post := by
  refine mMet_of rfl (Nat.le_of_ble_eq_true rfl) ?_
  refine mj_iconst d_Mod_sealPayment_0 (nI 0) (by decide) ?_
  refine mj_istore d_Mod_sealPayment_1 (by decide) ?_
  dsimp only [mSt1, mSt2, mKill, Nat.reduceAdd]
  have e := l1_pay h24 h34 h35 h36 h37 h38 h39 h40 hta hk hbk hcv hgv hgd kk (L := L) (xs := xs) 6 0 fse (by omega) (fun j hj => by omega)
  rw [set_same h38] at e
  exact e
