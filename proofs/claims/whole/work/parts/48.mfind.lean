theorem lp_find {L : Nat} {xs : Nat → Int32} {Post : Option Value → mHeap → Prop} {t r : List Nat} {cu tr an sg am pv : Nat} {fr fo : Nat → Int32} {X : mCell} {tag rv : Int32} {pre : mHeap} {fkey fdig fnm frc frl frb fen fta frd fbl fmo fse fre fma : Nat → Int32} (hX : X = cMod cu tr an sg am pv t.length r.length) (hr : Rf r fo) (hbr : Bb r) (hrl : r.length ≤ 32) (kk : ∀ (h : mHeap) (E : Nat → Int32), MB h fkey fdig fnm frc frl frb fen fta frd fbl fmo fse fre fma E → h.take 24 = pre → Post (some (.int rv)) (pP h X fr fo)) : ∀ (n : Nat) (e : Nat → Nat) (d p : Nat) (h : mHeap) (fend : Nat → Int32) (w4 w5 w6 w7 w8 : Option Value), MB h fkey fdig fnm frc frl frb fen fta frd fbl fmo fse fre fma fend → h.take 24 = pre → EI r e d p → 2 * d ≤ p → FA (d + 1) e fend → fnd r tag n (stkOf e d) p = some rv → mGo M_Mod_find L xs (0, 0) 0 0 Post 0 0 14 [some (.ref 24), some (.int tag), some (.int (nI d)), some (.int (nI p)), w4, w5, w6, w7, w8] [] (pP h X fr fo) := by
  subst hX
  intro n
  induction n with
  | zero =>
    intro e d p h fend w4 w5 w6 w7 w8 hB hq hI hdp hE hf
    exact absurd hf (by rw [fnd]; simp)
  | succ n ih =>
    intro e d p h fend w4 w5 w6 w7 w8 hB hq hI hdp hE hf
    have hle := EI_le hI d (Nat.le_refl _)
    refine mj_iload_n d_Mod_find_14 rfl ?_
    refine mj_iflt d_Mod_find_15 218 rfl (fun c_15 => ?_) (fun c_15 => ?_)
    · exact absurd c_15 (nI_nn (by omega))
    · refine mj_aload_n d_Mod_find_18 rfl ?_
      refine mj_get d_Mod_find_19 fd_Mod_62 (pP_24 hB.1) rfl ?_
      refine mj_iload_n d_Mod_find_22 rfl ?_
      refine mj_ialdN d_Mod_find_23 (pP_get hB.2.2.2.2.2.2.2.2.2.2.2.2.2.2.2.2.2 (by decide) (by decide) (by decide)) (by omega) ?_
      rw [hE _ (by omega)]
      refine mj_istore d_Mod_find_24 (by decide) ?_
      dsimp only [mSt1, mSt2, mKill, Nat.reduceAdd]
      refine mj_iload_n d_Mod_find_26 rfl ?_
      refine mj_iload d_Mod_find_27 rfl ?_
      refine mj_icmpneN d_Mod_find_29 38 rfl (by omega) (fun c_29 => ?_) (fun c_29 => ?_)
      · obtain ⟨es, hes⟩ := stkOf_s e d
        rw [hes] at hf
        have hbp := getD_lt hbr p
        refine mj_aload_n d_Mod_find_38 rfl ?_
        refine mj_get d_Mod_find_39 fd_Mod_35 (pP_24 hB.1) rfl ?_
        refine mj_iload_n d_Mod_find_42 rfl ?_
        refine mj_ialdN d_Mod_find_43 (pP_32 hB.2.2.1) (by omega) ?_
        rw [hr _ (by omega)]
        refine mj_bipush d_Mod_find_44 (nI 31) (by decide) ?_
        refine mj_iand d_Mod_find_46 ?_
        rw [nI_and31 (by omega)]
        refine mj_bipush d_Mod_find_47 (nI 31) (by decide) ?_
        refine mj_icmpneN d_Mod_find_49 56 rfl (by omega) (fun c_49 => ?_) (fun c_49 => ?_)
        · have eh : hd3 r p = p + 2 := by unfold hd3; rw [if_neg (by omega)]
          have em : mt r p = r.getD p 0 := by unfold mt; rw [if_neg (by omega)]
          refine mj_iconst d_Mod_find_56 (nI 0) (by decide) ?_
          refine mj_istore d_Mod_find_57 (by decide) ?_
          dsimp only [mSt1, mSt2, mKill, Nat.reduceAdd]
          refine mj_iload d_Mod_find_59 rfl ?_
          refine mj_ifeqN d_Mod_find_61 70 rfl (by omega) (fun c_61 => ?_) (fun c_61 => ?_)
          · refine mj_iload_n d_Mod_find_70 rfl ?_
            refine mj_iconst d_Mod_find_71 (nI 2) (by decide) ?_
            refine mj_iadd d_Mod_find_72 ?_
            rw [nI_add]
            refine mj_istore d_Mod_find_73 (by decide) ?_
            dsimp only [mSt1, mSt2, mKill, Nat.reduceAdd]
            refine mj_iload d_Mod_find_75 rfl ?_
            refine mj_iload d_Mod_find_77 rfl ?_
            refine mj_icmpgtN d_Mod_find_79 99 rfl (by omega) (fun c_79 => ?_) (fun c_79 => ?_)
            · refine mj_iconst d_Mod_find_99 (-1) (by decide) ?_
              refine mj_iret d_Mod_find_100 rfl rfl (Nat.le_refl _) (Nat.le_refl _) ?_
              first
                | (rw [fnd, if_neg (by omega), if_pos (by omega)] at hf
                   cases hf
                   exact kk _ _ hB hq)
                | (rw [fnd, if_neg (by omega), if_neg (by omega), if_pos (by rw [eh]; omega)] at hf
                   cases hf
                   exact kk _ _ hB hq)
            · refine mj_iload d_Mod_find_82 rfl ?_
              refine mj_aload_n d_Mod_find_84 rfl ?_
              refine mj_get d_Mod_find_85 fd_Mod_35 (pP_24 hB.1) rfl ?_
              refine mj_iload d_Mod_find_88 rfl ?_
              refine mj_iconst d_Mod_find_90 (nI 1) (by decide) ?_
              refine mj_isub d_Mod_find_91 ?_
              rw [pk_sub (by omega)]
              refine mj_ialdN d_Mod_find_92 (pP_32 hB.2.2.1) (by omega) ?_
              rw [hr _ (by omega)]
              refine mj_iadd d_Mod_find_93 ?_
              rw [nI_add]
              refine mj_iload d_Mod_find_94 rfl ?_
              refine mj_icmpleN d_Mod_find_96 101 rfl (by have := getD_lt hbr (p + 3 - 1); have := getD_lt hbr (p + 2 - 1); omega) (fun c_96 => ?_) (fun c_96 => ?_)
              · refine mj_iload d_Mod_find_101 rfl ?_
                refine mj_ifeqN d_Mod_find_103 128 rfl (by omega) (fun c_103 => ?_) (fun c_103 => ?_)
                · refine mj_aload_n d_Mod_find_128 rfl ?_
                  refine mj_get d_Mod_find_129 fd_Mod_35 (pP_24 hB.1) rfl ?_
                  refine mj_iload_n d_Mod_find_132 rfl ?_
                  refine mj_ialdN d_Mod_find_133 (pP_32 hB.2.2.1) (by omega) ?_
                  rw [hr _ (by omega)]
                  refine mj_istore d_Mod_find_134 (by decide) ?_
                  dsimp only [mSt1, mSt2, mKill, Nat.reduceAdd]
                  refine mj_iload d_Mod_find_136 rfl ?_
                  refine mj_iload_n d_Mod_find_138 rfl ?_
                  refine mj_icmpne d_Mod_find_139 145 rfl (fun c_139 => ?_) (fun c_139 => ?_)
                  · refine mj_aload_n d_Mod_find_145 rfl ?_
                    refine mj_get d_Mod_find_146 fd_Mod_35 (pP_24 hB.1) rfl ?_
                    refine mj_iload_n d_Mod_find_149 rfl ?_
                    refine mj_ialdN d_Mod_find_150 (pP_32 hB.2.2.1) (by omega) ?_
                    rw [hr _ (by omega)]
                    refine mj_iconst d_Mod_find_151 (nI 5) (by decide) ?_
                    refine mj_ishr d_Mod_find_152 ?_
                    rw [nI_shrk (by omega) (by decide), show (2 : Nat) ^ 5 = 32 from rfl]
                    refine mj_iconst d_Mod_find_153 (nI 1) (by decide) ?_
                    refine mj_iand d_Mod_find_154 ?_
                    rw [nI_and1]
                    refine mj_iconst d_Mod_find_155 (nI 1) (by decide) ?_
                    refine mj_icmpneN d_Mod_find_156 163 rfl (by omega) (fun c_156 => ?_) (fun c_156 => ?_)
                    · refine mj_iconst d_Mod_find_163 (nI 0) (by decide) ?_
                      refine mj_istore d_Mod_find_164 (by decide) ?_
                      dsimp only [mSt1, mSt2, mKill, Nat.reduceAdd]
                      refine mj_iload d_Mod_find_166 rfl ?_
                      refine mj_ifeqN d_Mod_find_168 176 rfl (by omega) (fun c_168 => ?_) (fun c_168 => ?_)
                      · refine mj_iload d_Mod_find_176 rfl ?_
                        refine mj_aload_n d_Mod_find_178 rfl ?_
                        refine mj_get d_Mod_find_179 fd_Mod_35 (pP_24 hB.1) rfl ?_
                        refine mj_iload d_Mod_find_182 rfl ?_
                        refine mj_iconst d_Mod_find_184 (nI 1) (by decide) ?_
                        refine mj_isub d_Mod_find_185 ?_
                        rw [pk_sub (by omega)]
                        refine mj_ialdN d_Mod_find_186 (pP_32 hB.2.2.1) (by omega) ?_
                        rw [hr _ (by omega)]
                        refine mj_iadd d_Mod_find_187 ?_
                        rw [nI_add]
                        refine mj_istore_n d_Mod_find_188 (by decide) ?_
                        dsimp only [mSt1, mSt2, mKill, Nat.reduceAdd]
                        refine mj_iload d_Mod_find_189 rfl ?_
                        refine mj_ifeqN d_Mod_find_191 215 rfl (by omega) (fun c_191 => ?_) (fun c_191 => ?_)
                        · refine mj_goto d_Mod_find_215 14 rfl ?_
                          rw [fnd, if_neg (by omega), if_neg (by omega), if_neg (by rw [eh]; omega), if_neg (by rw [em]; exact fun z => c_139 z.symm), if_neg (by omega), eh, ← hes] at hf
                          exact ih e d _ _ _ _ _ _ _ _ hB hq ⟨hI.1, hI.2.1, by omega⟩ (by omega) hE hf
                        · omega
                      · omega
                    · refine mj_iconst d_Mod_find_159 (nI 1) (by decide) ?_
                      refine mj_goto d_Mod_find_160 164 rfl ?_
                      refine mj_istore d_Mod_find_164 (by decide) ?_
                      dsimp only [mSt1, mSt2, mKill, Nat.reduceAdd]
                      refine mj_iload d_Mod_find_166 rfl ?_
                      refine mj_ifeqN d_Mod_find_168 176 rfl (by omega) (fun c_168 => ?_) (fun c_168 => ?_)
                      · omega
                      · refine mj_iload d_Mod_find_171 rfl ?_
                        refine mj_goto d_Mod_find_173 188 rfl ?_
                        refine mj_istore_n d_Mod_find_188 (by decide) ?_
                        dsimp only [mSt1, mSt2, mKill, Nat.reduceAdd]
                        refine mj_iload d_Mod_find_189 rfl ?_
                        refine mj_ifeqN d_Mod_find_191 215 rfl (by omega) (fun c_191 => ?_) (fun c_191 => ?_)
                        · omega
                        · refine mj_iinc d_Mod_find_194 rfl (by decide) (nI (d + 1)) (nI_1 d) ?_
                          dsimp only [mSt1, mSt2, mKill, Nat.reduceAdd]
                          refine mj_aload_n d_Mod_find_197 rfl ?_
                          refine mj_get d_Mod_find_198 fd_Mod_62 (pP_24 hB.1) rfl ?_
                          refine mj_iload_n d_Mod_find_201 rfl ?_
                          refine mj_iload d_Mod_find_202 rfl ?_
                          refine mj_aload_n d_Mod_find_204 rfl ?_
                          refine mj_get d_Mod_find_205 fd_Mod_35 (pP_24 hB.1) rfl ?_
                          refine mj_iload d_Mod_find_208 rfl ?_
                          refine mj_iconst d_Mod_find_210 (nI 1) (by decide) ?_
                          refine mj_isub d_Mod_find_211 ?_
                          rw [pk_sub (by omega)]
                          refine mj_ialdN d_Mod_find_212 (pP_32 hB.2.2.1) (by omega) ?_
                          rw [hr _ (by omega)]
                          refine mj_iadd d_Mod_find_213 ?_
                          rw [nI_add]
                          refine mj_iastN d_Mod_find_214 (pP_get hB.2.2.2.2.2.2.2.2.2.2.2.2.2.2.2.2.2 (by decide) (by decide) (by decide)) (by omega) ?_
                          rw [pP_sk (by decide) (by decide) (by decide)]
                          refine mj_goto d_Mod_find_215 14 rfl ?_
                          rw [fnd, if_neg (by omega), if_neg (by omega), if_neg (by rw [eh]; omega), if_neg (by rw [em]; exact fun z => c_139 z.symm), if_pos (by omega), eh, ← hes, ← stk_push e d] at hf
                          exact ih (eUp e (d + 1) _) (d + 1) _ _ _ _ _ _ _ _ (MBs_41 hB) ((tk24 (by decide)).trans hq) (EI_push hI (by omega) (by omega)) (by omega) (FA_push hE) hf
                  · refine mj_iload d_Mod_find_142 rfl ?_
                    refine mj_iret d_Mod_find_144 rfl rfl (Nat.le_refl _) (Nat.le_refl _) ?_
                    rw [fnd, if_neg (by omega), if_neg (by omega), if_neg (by rw [eh]; omega), if_pos (by rw [em]; exact c_139.symm), eh] at hf
                    cases hf
                    exact kk _ _ hB hq
                · omega
              · refine mj_iconst d_Mod_find_99 (-1) (by decide) ?_
                refine mj_iret d_Mod_find_100 rfl rfl (Nat.le_refl _) (Nat.le_refl _) ?_
                first
                  | (rw [fnd, if_neg (by omega), if_pos (by omega)] at hf
                     cases hf
                     exact kk _ _ hB hq)
                  | (rw [fnd, if_neg (by omega), if_neg (by omega), if_pos (by rw [eh]; omega)] at hf
                     cases hf
                     exact kk _ _ hB hq)
          · omega
        · have eh : hd3 r p = p + 3 := by unfold hd3; rw [if_pos (by omega)]
          have em : mt r p = 256 * r.getD p 0 + r.getD (p + 1) 0 := by unfold mt; rw [if_pos (by omega)]
          refine mj_iconst d_Mod_find_52 (nI 1) (by decide) ?_
          refine mj_goto d_Mod_find_53 57 rfl ?_
          refine mj_istore d_Mod_find_57 (by decide) ?_
          dsimp only [mSt1, mSt2, mKill, Nat.reduceAdd]
          refine mj_iload d_Mod_find_59 rfl ?_
          refine mj_ifeqN d_Mod_find_61 70 rfl (by omega) (fun c_61 => ?_) (fun c_61 => ?_)
          · omega
          · refine mj_iload_n d_Mod_find_64 rfl ?_
            refine mj_iconst d_Mod_find_65 (nI 3) (by decide) ?_
            refine mj_iadd d_Mod_find_66 ?_
            rw [nI_add]
            refine mj_goto d_Mod_find_67 73 rfl ?_
            refine mj_istore d_Mod_find_73 (by decide) ?_
            dsimp only [mSt1, mSt2, mKill, Nat.reduceAdd]
            refine mj_iload d_Mod_find_75 rfl ?_
            refine mj_iload d_Mod_find_77 rfl ?_
            refine mj_icmpgtN d_Mod_find_79 99 rfl (by omega) (fun c_79 => ?_) (fun c_79 => ?_)
            · refine mj_iconst d_Mod_find_99 (-1) (by decide) ?_
              refine mj_iret d_Mod_find_100 rfl rfl (Nat.le_refl _) (Nat.le_refl _) ?_
              first
                | (rw [fnd, if_neg (by omega), if_pos (by omega)] at hf
                   cases hf
                   exact kk _ _ hB hq)
                | (rw [fnd, if_neg (by omega), if_neg (by omega), if_pos (by rw [eh]; omega)] at hf
                   cases hf
                   exact kk _ _ hB hq)
            · refine mj_iload d_Mod_find_82 rfl ?_
              refine mj_aload_n d_Mod_find_84 rfl ?_
              refine mj_get d_Mod_find_85 fd_Mod_35 (pP_24 hB.1) rfl ?_
              refine mj_iload d_Mod_find_88 rfl ?_
              refine mj_iconst d_Mod_find_90 (nI 1) (by decide) ?_
              refine mj_isub d_Mod_find_91 ?_
              rw [pk_sub (by omega)]
              refine mj_ialdN d_Mod_find_92 (pP_32 hB.2.2.1) (by omega) ?_
              rw [hr _ (by omega)]
              refine mj_iadd d_Mod_find_93 ?_
              rw [nI_add]
              refine mj_iload d_Mod_find_94 rfl ?_
              refine mj_icmpleN d_Mod_find_96 101 rfl (by have := getD_lt hbr (p + 3 - 1); have := getD_lt hbr (p + 2 - 1); omega) (fun c_96 => ?_) (fun c_96 => ?_)
              · refine mj_iload d_Mod_find_101 rfl ?_
                refine mj_ifeqN d_Mod_find_103 128 rfl (by omega) (fun c_103 => ?_) (fun c_103 => ?_)
                · omega
                · refine mj_sipush d_Mod_find_106 (nI 256) (by decide) ?_
                  refine mj_aload_n d_Mod_find_109 rfl ?_
                  refine mj_get d_Mod_find_110 fd_Mod_35 (pP_24 hB.1) rfl ?_
                  refine mj_iload_n d_Mod_find_113 rfl ?_
                  refine mj_ialdN d_Mod_find_114 (pP_32 hB.2.2.1) (by omega) ?_
                  rw [hr _ (by omega)]
                  refine mj_imul d_Mod_find_115 ?_
                  rw [pk_mul]
                  refine mj_aload_n d_Mod_find_116 rfl ?_
                  refine mj_get d_Mod_find_117 fd_Mod_35 (pP_24 hB.1) rfl ?_
                  refine mj_iload_n d_Mod_find_120 rfl ?_
                  refine mj_iconst d_Mod_find_121 (nI 1) (by decide) ?_
                  refine mj_iadd d_Mod_find_122 ?_
                  rw [nI_add]
                  refine mj_ialdN d_Mod_find_123 (pP_32 hB.2.2.1) (by omega) ?_
                  rw [hr _ (by omega)]
                  refine mj_iadd d_Mod_find_124 ?_
                  rw [nI_add]
                  refine mj_goto d_Mod_find_125 134 rfl ?_
                  refine mj_istore d_Mod_find_134 (by decide) ?_
                  dsimp only [mSt1, mSt2, mKill, Nat.reduceAdd]
                  refine mj_iload d_Mod_find_136 rfl ?_
                  refine mj_iload_n d_Mod_find_138 rfl ?_
                  refine mj_icmpne d_Mod_find_139 145 rfl (fun c_139 => ?_) (fun c_139 => ?_)
                  · refine mj_aload_n d_Mod_find_145 rfl ?_
                    refine mj_get d_Mod_find_146 fd_Mod_35 (pP_24 hB.1) rfl ?_
                    refine mj_iload_n d_Mod_find_149 rfl ?_
                    refine mj_ialdN d_Mod_find_150 (pP_32 hB.2.2.1) (by omega) ?_
                    rw [hr _ (by omega)]
                    refine mj_iconst d_Mod_find_151 (nI 5) (by decide) ?_
                    refine mj_ishr d_Mod_find_152 ?_
                    rw [nI_shrk (by omega) (by decide), show (2 : Nat) ^ 5 = 32 from rfl]
                    refine mj_iconst d_Mod_find_153 (nI 1) (by decide) ?_
                    refine mj_iand d_Mod_find_154 ?_
                    rw [nI_and1]
                    refine mj_iconst d_Mod_find_155 (nI 1) (by decide) ?_
                    refine mj_icmpneN d_Mod_find_156 163 rfl (by omega) (fun c_156 => ?_) (fun c_156 => ?_)
                    · refine mj_iconst d_Mod_find_163 (nI 0) (by decide) ?_
                      refine mj_istore d_Mod_find_164 (by decide) ?_
                      dsimp only [mSt1, mSt2, mKill, Nat.reduceAdd]
                      refine mj_iload d_Mod_find_166 rfl ?_
                      refine mj_ifeqN d_Mod_find_168 176 rfl (by omega) (fun c_168 => ?_) (fun c_168 => ?_)
                      · refine mj_iload d_Mod_find_176 rfl ?_
                        refine mj_aload_n d_Mod_find_178 rfl ?_
                        refine mj_get d_Mod_find_179 fd_Mod_35 (pP_24 hB.1) rfl ?_
                        refine mj_iload d_Mod_find_182 rfl ?_
                        refine mj_iconst d_Mod_find_184 (nI 1) (by decide) ?_
                        refine mj_isub d_Mod_find_185 ?_
                        rw [pk_sub (by omega)]
                        refine mj_ialdN d_Mod_find_186 (pP_32 hB.2.2.1) (by omega) ?_
                        rw [hr _ (by omega)]
                        refine mj_iadd d_Mod_find_187 ?_
                        rw [nI_add]
                        refine mj_istore_n d_Mod_find_188 (by decide) ?_
                        dsimp only [mSt1, mSt2, mKill, Nat.reduceAdd]
                        refine mj_iload d_Mod_find_189 rfl ?_
                        refine mj_ifeqN d_Mod_find_191 215 rfl (by omega) (fun c_191 => ?_) (fun c_191 => ?_)
                        · refine mj_goto d_Mod_find_215 14 rfl ?_
                          rw [fnd, if_neg (by omega), if_neg (by omega), if_neg (by rw [eh]; omega), if_neg (by rw [em]; exact fun z => c_139 z.symm), if_neg (by omega), eh, ← hes] at hf
                          exact ih e d _ _ _ _ _ _ _ _ hB hq ⟨hI.1, hI.2.1, by omega⟩ (by omega) hE hf
                        · omega
                      · omega
                    · refine mj_iconst d_Mod_find_159 (nI 1) (by decide) ?_
                      refine mj_goto d_Mod_find_160 164 rfl ?_
                      refine mj_istore d_Mod_find_164 (by decide) ?_
                      dsimp only [mSt1, mSt2, mKill, Nat.reduceAdd]
                      refine mj_iload d_Mod_find_166 rfl ?_
                      refine mj_ifeqN d_Mod_find_168 176 rfl (by omega) (fun c_168 => ?_) (fun c_168 => ?_)
                      · omega
                      · refine mj_iload d_Mod_find_171 rfl ?_
                        refine mj_goto d_Mod_find_173 188 rfl ?_
                        refine mj_istore_n d_Mod_find_188 (by decide) ?_
                        dsimp only [mSt1, mSt2, mKill, Nat.reduceAdd]
                        refine mj_iload d_Mod_find_189 rfl ?_
                        refine mj_ifeqN d_Mod_find_191 215 rfl (by omega) (fun c_191 => ?_) (fun c_191 => ?_)
                        · omega
                        · refine mj_iinc d_Mod_find_194 rfl (by decide) (nI (d + 1)) (nI_1 d) ?_
                          dsimp only [mSt1, mSt2, mKill, Nat.reduceAdd]
                          refine mj_aload_n d_Mod_find_197 rfl ?_
                          refine mj_get d_Mod_find_198 fd_Mod_62 (pP_24 hB.1) rfl ?_
                          refine mj_iload_n d_Mod_find_201 rfl ?_
                          refine mj_iload d_Mod_find_202 rfl ?_
                          refine mj_aload_n d_Mod_find_204 rfl ?_
                          refine mj_get d_Mod_find_205 fd_Mod_35 (pP_24 hB.1) rfl ?_
                          refine mj_iload d_Mod_find_208 rfl ?_
                          refine mj_iconst d_Mod_find_210 (nI 1) (by decide) ?_
                          refine mj_isub d_Mod_find_211 ?_
                          rw [pk_sub (by omega)]
                          refine mj_ialdN d_Mod_find_212 (pP_32 hB.2.2.1) (by omega) ?_
                          rw [hr _ (by omega)]
                          refine mj_iadd d_Mod_find_213 ?_
                          rw [nI_add]
                          refine mj_iastN d_Mod_find_214 (pP_get hB.2.2.2.2.2.2.2.2.2.2.2.2.2.2.2.2.2 (by decide) (by decide) (by decide)) (by omega) ?_
                          rw [pP_sk (by decide) (by decide) (by decide)]
                          refine mj_goto d_Mod_find_215 14 rfl ?_
                          rw [fnd, if_neg (by omega), if_neg (by omega), if_neg (by rw [eh]; omega), if_neg (by rw [em]; exact fun z => c_139 z.symm), if_pos (by omega), eh, ← hes, ← stk_push e d] at hf
                          exact ih (eUp e (d + 1) _) (d + 1) _ _ _ _ _ _ _ _ (MBs_41 hB) ((tk24 (by decide)).trans hq) (EI_push hI (by omega) (by omega)) (by omega) (FA_push hE) hf
                  · refine mj_iload d_Mod_find_142 rfl ?_
                    refine mj_iret d_Mod_find_144 rfl rfl (Nat.le_refl _) (Nat.le_refl _) ?_
                    rw [fnd, if_neg (by omega), if_neg (by omega), if_neg (by rw [eh]; omega), if_pos (by rw [em]; exact c_139.symm), eh] at hf
                    cases hf
                    exact kk _ _ hB hq
              · refine mj_iconst d_Mod_find_99 (-1) (by decide) ?_
                refine mj_iret d_Mod_find_100 rfl rfl (Nat.le_refl _) (Nat.le_refl _) ?_
                first
                  | (rw [fnd, if_neg (by omega), if_pos (by omega)] at hf
                     cases hf
                     exact kk _ _ hB hq)
                  | (rw [fnd, if_neg (by omega), if_neg (by omega), if_pos (by rw [eh]; omega)] at hf
                     cases hf
                     exact kk _ _ hB hq)
      · rcases d with _ | c
        · refine mj_iinc d_Mod_find_32 rfl (by decide) (-1) (by decide) ?_
          dsimp only [mSt1, mSt2, mKill, Nat.reduceAdd]
          refine mj_goto d_Mod_find_35 215 rfl ?_
          refine mj_goto d_Mod_find_215 14 rfl ?_
          refine mj_iload_n d_Mod_find_14 rfl ?_
          refine mj_iflt d_Mod_find_15 218 rfl (fun c_15 => ?_) (fun c_15 => ?_)
          · refine mj_iconst d_Mod_find_218 (-1) (by decide) ?_
            refine mj_iret d_Mod_find_219 rfl rfl (Nat.le_refl _) (Nat.le_refl _) ?_
            rw [stkOf, fnd, if_pos (by omega)] at hf
            have e1 : rv = -1 := by
              cases n with
              | zero => cases hf
              | succ n => cases hf; rfl
            rw [e1] at kk
            exact kk _ _ hB hq
          · exact absurd (show (-1 : Int32) < 0 by decide) c_15
        · refine mj_iinc d_Mod_find_32 rfl (by decide) (nI c) (pk_m1 c) ?_
          dsimp only [mSt1, mSt2, mKill, Nat.reduceAdd]
          refine mj_goto d_Mod_find_35 215 rfl ?_
          refine mj_goto d_Mod_find_215 14 rfl ?_
          rw [stkOf, fnd, if_pos (by omega)] at hf
          exact ih e c p _ _ _ _ _ _ _ hB hq (EI_pop hI) (by omega) (FA_le hE (by omega)) hf
theorem s_Mod_find {L : Nat} {xs : Nat → Int32} {Post : Option Value → mHeap → Prop} {fen : Nat → Int32} {t r nm : List Nat} {cnt : Nat → Nat} {rc : Nat → List Nat} {rk : Nat → Nat} {co cu tr an sg am pv : Nat} {pre h : mHeap} {v : Int32} (hA : AI t r nm cnt rc rk co cu tr an sg am pv) (hW : MW fen t r nm cnt rc rk co cu tr an sg am pv pre h) (kP : ∀ h', MW fen t r nm cnt rc rk co cu tr an sg am pv pre h' → Post (some (.int (fV r v))) h') : mMet M_Mod_find L xs (0, 0) 0 0 [.ref 24, .int v] h Post := by
  obtain ⟨h0, fkey, fdig, fnm, frc, frl, frb, fta, frd, fbl, fmo, fse, fre, fma, fend, fr, fo, ⟨ht, hr, hnm, hdg, hF, hta, hrd⟩, hB, hq, rfl⟩ := hW
  refine mMet_of rfl (Nat.le_of_ble_eq_true rfl) ?_
  refine mj_iconst d_Mod_find_0 (nI 0) (by decide) ?_
  refine mj_istore_n d_Mod_find_1 (by decide) ?_
  dsimp only [mSt1, mSt2, mKill, Nat.reduceAdd]
  refine mj_aload_n d_Mod_find_2 rfl ?_
  refine mj_get d_Mod_find_3 fd_Mod_62 (pP_24 hB.1) rfl ?_
  refine mj_iconst d_Mod_find_6 (nI 0) (by decide) ?_
  refine mj_aload_n d_Mod_find_7 rfl ?_
  refine mj_get d_Mod_find_8 fd_Mod_100 (pP_24 hB.1) rfl ?_
  refine mj_iastN d_Mod_find_11 (pP_get hB.2.2.2.2.2.2.2.2.2.2.2.2.2.2.2.2.2 (by decide) (by decide) (by decide)) (by omega) ?_
  rw [pP_sk (by decide) (by decide) (by decide)]
  refine mj_iconst d_Mod_find_12 (nI 0) (by decide) ?_
  refine mj_istore_n d_Mod_find_13 (by decide) ?_
  dsimp only [mSt1, mSt2, mKill, Nat.reduceAdd]
  refine lp_find rfl hr hA.2.1.1 hA.2.1.2 (fun h1 E hB1 hq1 => ?_) 100 (fun _ => r.length) 0 0 _ _ _ _ _ _ _ (MBs_41 hB) ((tk24 (by decide)).trans hq) ⟨rfl, fun j hj => by omega, by omega⟩ (by omega) (fun j hj => by rw [show j = 0 by omega, pk_us]) (fk_spec (by have := hA.2.1.2; omega)).1
  exact kP _ ⟨h1, fkey, fdig, fnm, frc, frl, frb, fta, frd, fbl, fmo, fse, fre, fma, E, fr, fo, ⟨ht, hr, hnm, hdg, hF, hta, hrd⟩, hB1, hq1, rfl⟩
theorem s_Mod_wipe {L : Nat} {xs : Nat → Int32} {Post : Option Value → mHeap → Prop} {fen : Nat → Int32} {t r nm : List Nat} {cnt : Nat → Nat} {rc : Nat → List Nat} {rk : Nat → Nat} {co cu tr an sg am pv : Nat} {pre h : mHeap}  (hA : AI t r nm cnt rc rk co cu tr an sg am pv) (hW : MW fen t r nm cnt rc rk co cu tr an sg am pv pre h) (kP : ∀ h', MW fen ([]) r nm cnt rc rk co cu tr an sg am pv pre h' → Post (some (.int (nI t.length))) h') : mMet M_Mod_wipe L xs (0, 0) 0 0 [.ref 24] h Post := by
  obtain ⟨h0, fkey, fdig, fnm, frc, frl, frb, fta, frd, fbl, fmo, fse, fre, fma, fend, fr, fo, ⟨ht, hr, hnm, hdg, hF, hta, hrd⟩, hB, hq, rfl⟩ := hW
  refine mMet_of rfl (Nat.le_of_ble_eq_true rfl) ?_
  refine mj_aload_n d_Mod_wipe_0 rfl ?_
  refine mj_get d_Mod_wipe_1 fd_Mod_97 (pP_24 hB.1) rfl ?_
  refine mj_istore_n d_Mod_wipe_4 (by decide) ?_
  dsimp only [mSt1, mSt2, mKill, Nat.reduceAdd]
  refine mj_aload_n d_Mod_wipe_5 rfl ?_
  refine mj_iconst d_Mod_wipe_6 (nI 0) (by decide) ?_
  refine mj_put d_Mod_wipe_7 fd_Mod_97 ft_Mod_12 (pP_24 hB.1) (Nat.le_of_ble_eq_true rfl) rfl rfl ?_
  rw [pP_s24]
  dsimp only [List.set]
  refine mj_iload_n d_Mod_wipe_10 rfl ?_
  refine mj_iret d_Mod_wipe_11 rfl rfl (Nat.le_refl _) (Nat.le_refl _) ?_
  exact kP _ ⟨h0, fkey, fdig, fnm, frc, frl, frb, fta, frd, fbl, fmo, fse, fre, fma, fend, fr, fo, ⟨(fun j hj => by cases hj), hr, hnm, hdg, hF, hta, hrd⟩, hB, hq, rfl⟩
theorem s_Mod_answered {L : Nat} {xs : Nat → Int32} {Post : Option Value → mHeap → Prop} {fen : Nat → Int32} {t r nm : List Nat} {cnt : Nat → Nat} {rc : Nat → List Nat} {rk : Nat → Nat} {co cu tr an sg am pv : Nat} {pre h : mHeap}  (hA : AI t r nm cnt rc rk co cu tr an sg am pv) (hW : MW fen t r nm cnt rc rk co cu tr an sg am pv pre h) (kP : ∀ h', MW fen t r nm cnt rc rk co cu tr an sg am pv pre h' → Post (some (.int (nI r.length))) h') : mMet M_Mod_answered L xs (0, 0) 0 0 [.ref 24] h Post := by
  obtain ⟨h0, fkey, fdig, fnm, frc, frl, frb, fta, frd, fbl, fmo, fse, fre, fma, fend, fr, fo, ⟨ht, hr, hnm, hdg, hF, hta, hrd⟩, hB, hq, rfl⟩ := hW
  refine mMet_of rfl (Nat.le_of_ble_eq_true rfl) ?_
  refine mj_aload_n d_Mod_answered_0 rfl ?_
  refine mj_get d_Mod_answered_1 fd_Mod_100 (pP_24 hB.1) rfl ?_
  refine mj_iret d_Mod_answered_4 rfl rfl (Nat.le_refl _) (Nat.le_refl _) ?_
  exact kP _ ⟨h0, fkey, fdig, fnm, frc, frl, frb, fta, frd, fbl, fmo, fse, fre, fma, fend, fr, fo, ⟨ht, hr, hnm, hdg, hF, hta, hrd⟩, hB, hq, rfl⟩
theorem s_Mod_stage {L : Nat} {xs : Nat → Int32} {Post : Option Value → mHeap → Prop} {fen : Nat → Int32} {t r nm : List Nat} {cnt : Nat → Nat} {rc : Nat → List Nat} {rk : Nat → Nat} {co cu tr an sg am pv : Nat} {pre h : mHeap}  (hA : AI t r nm cnt rc rk co cu tr an sg am pv) (hW : MW fen t r nm cnt rc rk co cu tr an sg am pv pre h) (kP : ∀ h', MW fen t r nm cnt rc rk co cu tr an sg am pv pre h' → Post (some (.int (nI sg))) h') : mMet M_Mod_stage L xs (0, 0) 0 0 [.ref 24] h Post := by
  obtain ⟨h0, fkey, fdig, fnm, frc, frl, frb, fta, frd, fbl, fmo, fse, fre, fma, fend, fr, fo, ⟨ht, hr, hnm, hdg, hF, hta, hrd⟩, hB, hq, rfl⟩ := hW
  refine mMet_of rfl (Nat.le_of_ble_eq_true rfl) ?_
  refine mj_aload_n d_Mod_stage_0 rfl ?_
  refine mj_get d_Mod_stage_1 fd_Mod_109 (pP_24 hB.1) rfl ?_
  refine mj_iret d_Mod_stage_4 rfl rfl (Nat.le_refl _) (Nat.le_refl _) ?_
  exact kP _ ⟨h0, fkey, fdig, fnm, frc, frl, frb, fta, frd, fbl, fmo, fse, fre, fma, fend, fr, fo, ⟨ht, hr, hnm, hdg, hF, hta, hrd⟩, hB, hq, rfl⟩
theorem s_Mod_counter {L : Nat} {xs : Nat → Int32} {Post : Option Value → mHeap → Prop} {fen : Nat → Int32} {t r nm : List Nat} {cnt : Nat → Nat} {rc : Nat → List Nat} {rk : Nat → Nat} {co cu tr an sg am pv : Nat} {pre h : mHeap}  (hA : AI t r nm cnt rc rk co cu tr an sg am pv) (hW : MW fen t r nm cnt rc rk co cu tr an sg am pv pre h) (kP : ∀ h', MW fen t r nm cnt rc rk co cu tr an sg am pv pre h' → Post (some (.int (nI cu))) h') : mMet M_Mod_counter L xs (0, 0) 0 0 [.ref 24] h Post := by
  obtain ⟨h0, fkey, fdig, fnm, frc, frl, frb, fta, frd, fbl, fmo, fse, fre, fma, fend, fr, fo, ⟨ht, hr, hnm, hdg, hF, hta, hrd⟩, hB, hq, rfl⟩ := hW
  refine mMet_of rfl (Nat.le_of_ble_eq_true rfl) ?_
  refine mj_aload_n d_Mod_counter_0 rfl ?_
  refine mj_get d_Mod_counter_1 fd_Mod_112 (pP_24 hB.1) rfl ?_
  refine mj_iret d_Mod_counter_4 rfl rfl (Nat.le_refl _) (Nat.le_refl _) ?_
  exact kP _ ⟨h0, fkey, fdig, fnm, frc, frl, frb, fta, frd, fbl, fmo, fse, fre, fma, fend, fr, fo, ⟨ht, hr, hnm, hdg, hF, hta, hrd⟩, hB, hq, rfl⟩
theorem s_Mod_tries {L : Nat} {xs : Nat → Int32} {Post : Option Value → mHeap → Prop} {fen : Nat → Int32} {t r nm : List Nat} {cnt : Nat → Nat} {rc : Nat → List Nat} {rk : Nat → Nat} {co cu tr an sg am pv : Nat} {pre h : mHeap}  (hA : AI t r nm cnt rc rk co cu tr an sg am pv) (hW : MW fen t r nm cnt rc rk co cu tr an sg am pv pre h) (kP : ∀ h', MW fen t r nm cnt rc rk co cu tr an sg am pv pre h' → Post (some (.int (nI tr))) h') : mMet M_Mod_tries L xs (0, 0) 0 0 [.ref 24] h Post := by
  obtain ⟨h0, fkey, fdig, fnm, frc, frl, frb, fta, frd, fbl, fmo, fse, fre, fma, fend, fr, fo, ⟨ht, hr, hnm, hdg, hF, hta, hrd⟩, hB, hq, rfl⟩ := hW
  refine mMet_of rfl (Nat.le_of_ble_eq_true rfl) ?_
  refine mj_aload_n d_Mod_tries_0 rfl ?_
  refine mj_get d_Mod_tries_1 fd_Mod_28 (pP_24 hB.1) rfl ?_
  refine mj_iret d_Mod_tries_4 rfl rfl (Nat.le_refl _) (Nat.le_refl _) ?_
  exact kP _ ⟨h0, fkey, fdig, fnm, frc, frl, frb, fta, frd, fbl, fmo, fse, fre, fma, fend, fr, fo, ⟨ht, hr, hnm, hdg, hF, hta, hrd⟩, hB, hq, rfl⟩
theorem s_Mod_answer {L : Nat} {xs : Nat → Int32} {Post : Option Value → mHeap → Prop} {fen : Nat → Int32} {t r nm : List Nat} {cnt : Nat → Nat} {rc : Nat → List Nat} {rk : Nat → Nat} {co cu tr an sg am pv : Nat} {pre h : mHeap} {v : Int32} (hA : AI t r nm cnt rc rk co cu tr an sg am pv) (hW : MW fen t r nm cnt rc rk co cu tr an sg am pv pre h) (kP : ∀ h', MW fen t r nm cnt rc rk co cu tr an sg am pv pre h' → Post (some (.int (atV r v))) h') : mMet M_Mod_answer L xs (0, 0) 0 0 [.ref 24, .int v] h Post := by
  obtain ⟨h0, fkey, fdig, fnm, frc, frl, frb, fta, frd, fbl, fmo, fse, fre, fma, fend, fr, fo, ⟨ht, hr, hnm, hdg, hF, hta, hrd⟩, hB, hq, rfl⟩ := hW
  refine mMet_of rfl (Nat.le_of_ble_eq_true rfl) ?_
  refine mj_iload_n d_Mod_answer_0 rfl ?_
  refine mj_iflt d_Mod_answer_1 21 rfl (fun c_1 => ?_) (fun c_1 => ?_)
  · refine mj_iconst d_Mod_answer_21 (-1) (by decide) ?_
    refine mj_iret d_Mod_answer_22 rfl rfl (Nat.le_refl _) (Nat.le_refl _) ?_
    first
      | (rw [atV_in hn9 (by omega)] at kP; exact kP _ ⟨h0, fkey, fdig, fnm, frc, frl, frb, fta, frd, fbl, fmo, fse, fre, fma, fend, fr, fo, ⟨ht, hr, hnm, hdg, hF, hta, hrd⟩, hB, hq, rfl⟩)
      | (have e : atV r v = -1 := by unfold atV; rw [if_neg (fun z => by rw [Int32.lt_iff_toInt_lt] at c_1; have := Int32.le_iff_toInt_le.mp z.1; omega)]
         rw [e] at kP; exact kP _ ⟨h0, fkey, fdig, fnm, frc, frl, frb, fta, frd, fbl, fmo, fse, fre, fma, fend, fr, fo, ⟨ht, hr, hnm, hdg, hF, hta, hrd⟩, hB, hq, rfl⟩)
      | (have hl := hA.2.1.2; obtain ⟨n, hn, rfl⟩ := nI_of c_1
         rw [nI_leI (by omega) hn] at c_9
         rw [atV_n hn, if_neg (by omega)] at kP; exact kP _ ⟨h0, fkey, fdig, fnm, frc, frl, frb, fta, frd, fbl, fmo, fse, fre, fma, fend, fr, fo, ⟨ht, hr, hnm, hdg, hF, hta, hrd⟩, hB, hq, rfl⟩)
  · refine mj_iload_n d_Mod_answer_4 rfl ?_
    refine mj_aload_n d_Mod_answer_5 rfl ?_
    refine mj_get d_Mod_answer_6 fd_Mod_100 (pP_24 hB.1) rfl ?_
    refine mj_icmpge d_Mod_answer_9 21 rfl (fun c_9 => ?_) (fun c_9 => ?_)
    · refine mj_iconst d_Mod_answer_21 (-1) (by decide) ?_
      refine mj_iret d_Mod_answer_22 rfl rfl (Nat.le_refl _) (Nat.le_refl _) ?_
      first
        | (rw [atV_in hn9 (by omega)] at kP; exact kP _ ⟨h0, fkey, fdig, fnm, frc, frl, frb, fta, frd, fbl, fmo, fse, fre, fma, fend, fr, fo, ⟨ht, hr, hnm, hdg, hF, hta, hrd⟩, hB, hq, rfl⟩)
        | (have e : atV r v = -1 := by unfold atV; rw [if_neg (fun z => by rw [Int32.lt_iff_toInt_lt] at c_1; have := Int32.le_iff_toInt_le.mp z.1; omega)]
           rw [e] at kP; exact kP _ ⟨h0, fkey, fdig, fnm, frc, frl, frb, fta, frd, fbl, fmo, fse, fre, fma, fend, fr, fo, ⟨ht, hr, hnm, hdg, hF, hta, hrd⟩, hB, hq, rfl⟩)
        | (have hl := hA.2.1.2; obtain ⟨n, hn, rfl⟩ := nI_of c_1
           rw [nI_leI (by omega) hn] at c_9
           rw [atV_n hn, if_neg (by omega)] at kP; exact kP _ ⟨h0, fkey, fdig, fnm, frc, frl, frb, fta, frd, fbl, fmo, fse, fre, fma, fend, fr, fo, ⟨ht, hr, hnm, hdg, hF, hta, hrd⟩, hB, hq, rfl⟩)
    · obtain ⟨n, hn, rfl⟩ := nI_of c_1
      have hl := hA.2.1.2
      have hn9 : n < r.length := by
        rw [nI_leI (by omega) hn] at c_9; omega
      refine mj_aload_n d_Mod_answer_12 rfl ?_
      refine mj_get d_Mod_answer_13 fd_Mod_35 (pP_24 hB.1) rfl ?_
      refine mj_iload_n d_Mod_answer_16 rfl ?_
      refine mj_ialdN d_Mod_answer_17 (pP_32 hB.2.2.1) (by omega) ?_
      rw [hr _ hn9]
      refine mj_goto d_Mod_answer_18 22 rfl ?_
      refine mj_iret d_Mod_answer_22 rfl rfl (Nat.le_refl _) (Nat.le_refl _) ?_
      first
        | (rw [atV_in hn9 (by omega)] at kP; exact kP _ ⟨h0, fkey, fdig, fnm, frc, frl, frb, fta, frd, fbl, fmo, fse, fre, fma, fend, fr, fo, ⟨ht, hr, hnm, hdg, hF, hta, hrd⟩, hB, hq, rfl⟩)
        | (have e : atV r v = -1 := by unfold atV; rw [if_neg (fun z => by rw [Int32.lt_iff_toInt_lt] at c_1; have := Int32.le_iff_toInt_le.mp z.1; omega)]
           rw [e] at kP; exact kP _ ⟨h0, fkey, fdig, fnm, frc, frl, frb, fta, frd, fbl, fmo, fse, fre, fma, fend, fr, fo, ⟨ht, hr, hnm, hdg, hF, hta, hrd⟩, hB, hq, rfl⟩)
        | (have hl := hA.2.1.2; obtain ⟨n, hn, rfl⟩ := nI_of c_1
           rw [nI_leI (by omega) hn] at c_9
           rw [atV_n hn, if_neg (by omega)] at kP; exact kP _ ⟨h0, fkey, fdig, fnm, frc, frl, frb, fta, frd, fbl, fmo, fse, fre, fma, fend, fr, fo, ⟨ht, hr, hnm, hdg, hF, hta, hrd⟩, hB, hq, rfl⟩)
theorem s_Mod_put {L : Nat} {xs : Nat → Int32} {Post : Option Value → mHeap → Prop} {fen : Nat → Int32} {t r nm : List Nat} {cnt : Nat → Nat} {rc : Nat → List Nat} {rk : Nat → Nat} {co cu tr an sg am pv : Nat} {pre h : mHeap} {v : Int32} (hA : AI t r nm cnt rc rk co cu tr an sg am pv) (hW : MW fen t r nm cnt rc rk co cu tr an sg am pv pre h) (kF : (¬ ∃ n : Nat, n < 256 ∧ v = nI n ∧ t.length < 40) → ∀ h', MW fen t r nm cnt rc rk co cu tr an sg am pv pre h' → Post (some (.int (nI 0))) h') (kT : ∀ n : Nat, n < 256 → v = nI n → t.length < 40 → ∀ h', MW fen (t ++ [n]) r nm cnt rc rk co cu tr an sg am pv pre h' → Post (some (.int (nI 1))) h') : mMet M_Mod_put L xs (0, 0) 0 0 [.ref 24, .int v] h Post := by
  obtain ⟨h0, fkey, fdig, fnm, frc, frl, frb, fta, frd, fbl, fmo, fse, fre, fma, fend, fr, fo, ⟨ht, hr, hnm, hdg, hF, hta, hrd⟩, hB, hq, rfl⟩ := hW
  refine mMet_of rfl (Nat.le_of_ble_eq_true rfl) ?_
  refine mj_iload_n d_Mod_put_0 rfl ?_
  refine mj_iflt d_Mod_put_1 20 rfl (fun c_1 => ?_) (fun c_1 => ?_)
  · refine mj_iconst d_Mod_put_20 (nI 0) (by decide) ?_
    refine mj_iret d_Mod_put_21 rfl (by decide) (Nat.le_refl _) (Nat.le_refl _) ?_
    refine kF (fun z => ?_) _ ⟨h0, fkey, fdig, fnm, frc, frl, frb, fta, frd, fbl, fmo, fse, fre, fma, fend, fr, fo, ⟨ht, hr, hnm, hdg, hF, hta, hrd⟩, hB, hq, rfl⟩
    obtain ⟨n, z1, z2, z3⟩ := z
    first
      | omega
      | exact nI_pos (n := n) (by omega) (by rw [← z2]; exact c_1)
      | (rw [z2, nI_ltI (by decide) (by omega)] at c_8; omega)
  · refine mj_iload_n d_Mod_put_4 rfl ?_
    refine mj_sipush d_Mod_put_5 (nI 255) (by decide) ?_
    refine mj_icmpgt d_Mod_put_8 20 rfl (fun c_8 => ?_) (fun c_8 => ?_)
    · refine mj_iconst d_Mod_put_20 (nI 0) (by decide) ?_
      refine mj_iret d_Mod_put_21 rfl (by decide) (Nat.le_refl _) (Nat.le_refl _) ?_
      refine kF (fun z => ?_) _ ⟨h0, fkey, fdig, fnm, frc, frl, frb, fta, frd, fbl, fmo, fse, fre, fma, fend, fr, fo, ⟨ht, hr, hnm, hdg, hF, hta, hrd⟩, hB, hq, rfl⟩
      obtain ⟨n, z1, z2, z3⟩ := z
      first
        | omega
        | exact nI_pos (n := n) (by omega) (by rw [← z2]; exact c_1)
        | (rw [z2, nI_ltI (by decide) (by omega)] at c_8; omega)
    · refine mj_aload_n d_Mod_put_11 rfl ?_
      refine mj_get d_Mod_put_12 fd_Mod_97 (pP_24 hB.1) rfl ?_
      refine mj_bipush d_Mod_put_15 (nI 40) (by decide) ?_
      refine mj_icmpneN d_Mod_put_17 22 rfl (by have := hA.1.2; omega) (fun c_17 => ?_) (fun c_17 => ?_)
      · obtain ⟨n, hn, rfl⟩ := nI_of c_1
        have hn9 : n < 256 := by
          rw [nI_ltI (by decide) hn] at c_8; omega
        have htl := hA.1.2
        refine mj_aload_n d_Mod_put_22 rfl ?_
        refine mj_get d_Mod_put_23 fd_Mod_32 (pP_24 hB.1) rfl ?_
        refine mj_aload_n d_Mod_put_26 rfl ?_
        refine mj_get d_Mod_put_27 fd_Mod_97 (pP_24 hB.1) rfl ?_
        refine mj_iload_n d_Mod_put_30 rfl ?_
        refine mj_iastN d_Mod_put_31 (pP_31 hB.2.1) (by omega) ?_
        rw [pP_s31]
        refine mj_aload_n d_Mod_put_32 rfl ?_
        refine mj_dup d_Mod_put_33 rfl ?_
        refine mj_get d_Mod_put_34 fd_Mod_97 (pP_24 hB.1) rfl ?_
        refine mj_iconst d_Mod_put_37 (nI 1) (by decide) ?_
        refine mj_iadd d_Mod_put_38 ?_
        rw [nI_add]
        refine mj_put d_Mod_put_39 fd_Mod_97 ft_Mod_12 (pP_24 hB.1) (Nat.le_of_ble_eq_true rfl) rfl rfl ?_
        rw [pP_s24]
        dsimp only [List.set]
        rw [show t.length + 1 = (t ++ [n]).length by simp]
        refine mj_iconst d_Mod_put_42 (nI 1) (by decide) ?_
        refine mj_iret d_Mod_put_43 rfl (by decide) (Nat.le_refl _) (Nat.le_refl _) ?_
        exact kT n hn9 rfl (by omega) _ ⟨h0, fkey, fdig, fnm, frc, frl, frb, fta, frd, fbl, fmo, fse, fre, fma, fend, _, fo, ⟨Rf_add ht, hr, hnm, hdg, hF, hta, hrd⟩, hB, hq, rfl⟩
      · refine mj_iconst d_Mod_put_20 (nI 0) (by decide) ?_
        refine mj_iret d_Mod_put_21 rfl (by decide) (Nat.le_refl _) (Nat.le_refl _) ?_
        refine kF (fun z => ?_) _ ⟨h0, fkey, fdig, fnm, frc, frl, frb, fta, frd, fbl, fmo, fse, fre, fma, fend, fr, fo, ⟨ht, hr, hnm, hdg, hF, hta, hrd⟩, hB, hq, rfl⟩
        obtain ⟨n, z1, z2, z3⟩ := z
        first
          | omega
          | exact nI_pos (n := n) (by omega) (by rw [← z2]; exact c_1)
          | (rw [z2, nI_ltI (by decide) (by omega)] at c_8; omega)
theorem s_Mod_code {L : Nat} {xs : Nat → Int32} {Post : Option Value → mHeap → Prop} {fen : Nat → Int32} {t r nm : List Nat} {cnt : Nat → Nat} {rc : Nat → List Nat} {rk : Nat → Nat} {co cu tr an sg am pv : Nat} {pre h : mHeap} {v : Int32} (hA : AI t r nm cnt rc rk co cu tr an sg am pv) (hW : MW fen t r nm cnt rc rk co cu tr an sg am pv pre h) (kF : (¬ ∃ n : Nat, n ≤ 9999 ∧ v = nI n) → ∀ h', MW fen t r nm cnt rc rk co cu tr an sg am pv pre h' → Post (some (.int (nI 0))) h') (kT : ∀ n : Nat, n ≤ 9999 → v = nI n → ∀ h', MW fen t r nm cnt rc rk n cu 3 an sg am pv pre h' → Post (some (.int (nI 1))) h') : mMet M_Mod_code L xs (0, 0) 0 0 [.ref 24, .int v] h Post := by
  obtain ⟨h0, fkey, fdig, fnm, frc, frl, frb, fta, frd, fbl, fmo, fse, fre, fma, fend, fr, fo, ⟨ht, hr, hnm, hdg, hF, hta, hrd⟩, hB, hq, rfl⟩ := hW
  refine mMet_of rfl (Nat.le_of_ble_eq_true rfl) ?_
  refine mj_iload_n d_Mod_code_0 rfl ?_
  refine mj_iflt d_Mod_code_1 11 rfl (fun c_1 => ?_) (fun c_1 => ?_)
  · refine mj_iconst d_Mod_code_11 (nI 0) (by decide) ?_
    refine mj_iret d_Mod_code_12 rfl (by decide) (Nat.le_refl _) (Nat.le_refl _) ?_
    refine kF (fun z => ?_) _ ⟨h0, fkey, fdig, fnm, frc, frl, frb, fta, frd, fbl, fmo, fse, fre, fma, fend, fr, fo, ⟨ht, hr, hnm, hdg, hF, hta, hrd⟩, hB, hq, rfl⟩
    obtain ⟨n, z1, z2⟩ := z
    first
      | exact nI_pos (n := n) (by omega) (by rw [← z2]; exact c_1)
      | exact c_8 (by rw [z2]; exact (nI_leI (by omega) (by decide)).mpr z1)
  · refine mj_iload_n d_Mod_code_4 rfl ?_
    refine mj_sipush d_Mod_code_5 (nI 9999) (by decide) ?_
    refine mj_icmple d_Mod_code_8 13 rfl (fun c_8 => ?_) (fun c_8 => ?_)
    · obtain ⟨n, hn, rfl⟩ := nI_of c_1
      have hn9 := (nI_leI hn (by decide)).mp c_8
      refine mj_aload_n d_Mod_code_13 rfl ?_
      refine mj_get d_Mod_code_14 fd_Mod_13 (pP_24 hB.1) rfl ?_
      refine mj_iconst d_Mod_code_17 (nI 0) (by decide) ?_
      refine mj_iload_n d_Mod_code_18 rfl ?_
      refine mj_sipush d_Mod_code_19 (nI 1000) (by decide) ?_
      refine mj_idiv d_Mod_code_22 (by decide) ?_
      rw [pk_div (by omega) (by decide) (by decide)]
      refine mj_iastN d_Mod_code_23 (pP_get hB.2.2.2.2.1 (by decide) (by decide) (by decide)) (by omega) ?_
      rw [pP_sk (by decide) (by decide) (by decide)]
      replace hB := MBs_26 (x := upd fdig 0 (nI (n / 1000))) hB
      refine mj_aload_n d_Mod_code_24 rfl ?_
      refine mj_get d_Mod_code_25 fd_Mod_13 (pP_24 hB.1) rfl ?_
      refine mj_iconst d_Mod_code_28 (nI 1) (by decide) ?_
      refine mj_iload_n d_Mod_code_29 rfl ?_
      refine mj_bipush d_Mod_code_30 (nI 100) (by decide) ?_
      refine mj_idiv d_Mod_code_32 (by decide) ?_
      rw [pk_div (by omega) (by decide) (by decide)]
      refine mj_bipush d_Mod_code_33 (nI 10) (by decide) ?_
      refine mj_irem d_Mod_code_35 (by decide) ?_
      rw [pk_rem (by omega) (by decide) (by decide)]
      refine mj_iastN d_Mod_code_36 (pP_get hB.2.2.2.2.1 (by decide) (by decide) (by decide)) (by omega) ?_
      rw [pP_sk (by decide) (by decide) (by decide), List.set_set]
      replace hB := MBs_26 (x := upd (upd fdig 0 (nI (n / 1000))) 1 (nI (n / 100 % 10))) hB
      rw [List.set_set] at hB
      refine mj_aload_n d_Mod_code_37 rfl ?_
      refine mj_get d_Mod_code_38 fd_Mod_13 (pP_24 hB.1) rfl ?_
      refine mj_iconst d_Mod_code_41 (nI 2) (by decide) ?_
      refine mj_iload_n d_Mod_code_42 rfl ?_
      refine mj_bipush d_Mod_code_43 (nI 10) (by decide) ?_
      refine mj_idiv d_Mod_code_45 (by decide) ?_
      rw [pk_div (by omega) (by decide) (by decide)]
      refine mj_bipush d_Mod_code_46 (nI 10) (by decide) ?_
      refine mj_irem d_Mod_code_48 (by decide) ?_
      rw [pk_rem (by omega) (by decide) (by decide)]
      refine mj_iastN d_Mod_code_49 (pP_get hB.2.2.2.2.1 (by decide) (by decide) (by decide)) (by omega) ?_
      rw [pP_sk (by decide) (by decide) (by decide), List.set_set]
      replace hB := MBs_26 (x := upd (upd (upd fdig 0 (nI (n / 1000))) 1 (nI (n / 100 % 10))) 2 (nI (n / 10 % 10))) hB
      rw [List.set_set] at hB
      refine mj_aload_n d_Mod_code_50 rfl ?_
      refine mj_get d_Mod_code_51 fd_Mod_13 (pP_24 hB.1) rfl ?_
      refine mj_iconst d_Mod_code_54 (nI 3) (by decide) ?_
      refine mj_iload_n d_Mod_code_55 rfl ?_
      refine mj_bipush d_Mod_code_56 (nI 10) (by decide) ?_
      refine mj_irem d_Mod_code_58 (by decide) ?_
      rw [pk_rem (by omega) (by decide) (by decide)]
      refine mj_iastN d_Mod_code_59 (pP_get hB.2.2.2.2.1 (by decide) (by decide) (by decide)) (by omega) ?_
      rw [pP_sk (by decide) (by decide) (by decide), List.set_set]
      replace hB := MBs_26 (x := upd (upd (upd (upd fdig 0 (nI (n / 1000))) 1 (nI (n / 100 % 10))) 2 (nI (n / 10 % 10))) 3 (nI (n % 10))) hB
      rw [List.set_set] at hB
      refine mj_aload_n d_Mod_code_60 rfl ?_
      refine mj_iconst d_Mod_code_61 (nI 3) (by decide) ?_
      refine mj_put d_Mod_code_62 fd_Mod_28 ft_Mod_7 (pP_24 hB.1) (Nat.le_of_ble_eq_true rfl) rfl rfl ?_
      rw [pP_s24]
      dsimp only [List.set]
      refine mj_iconst d_Mod_code_65 (nI 1) (by decide) ?_
      refine mj_iret d_Mod_code_66 rfl (by decide) (Nat.le_refl _) (Nat.le_refl _) ?_
      have f1 : FA 0 (dgF n) fdig := fun j hj => by omega
      have f4 := FA_s (FA_s (FA_s (FA_s f1)))
      exact kT n hn9 rfl _ ⟨_, fkey, _, fnm, frc, frl, frb, fta, frd, fbl, fmo, fse, fre, fma, fend, fr, fo, ⟨ht, hr, hnm, f4, hF, hta, hrd⟩, hB, ((tk24 (by decide)).trans hq), rfl⟩
    · refine mj_iconst d_Mod_code_11 (nI 0) (by decide) ?_
      refine mj_iret d_Mod_code_12 rfl (by decide) (Nat.le_refl _) (Nat.le_refl _) ?_
      refine kF (fun z => ?_) _ ⟨h0, fkey, fdig, fnm, frc, frl, frb, fta, frd, fbl, fmo, fse, fre, fma, fend, fr, fo, ⟨ht, hr, hnm, hdg, hF, hta, hrd⟩, hB, hq, rfl⟩
      obtain ⟨n, z1, z2⟩ := z
      first
        | exact nI_pos (n := n) (by omega) (by rw [← z2]; exact c_1)
        | exact c_8 (by rw [z2]; exact (nI_leI (by omega) (by decide)).mpr z1)
theorem s_Mod_advance {L : Nat} {xs : Nat → Int32} {Post : Option Value → mHeap → Prop} {fen : Nat → Int32} {t r nm : List Nat} {cnt : Nat → Nat} {rc : Nat → List Nat} {rk : Nat → Nat} {co cu tr an sg am pv : Nat} {pre h : mHeap} {v : Int32} (hA : AI t r nm cnt rc rk co cu tr an sg am pv) (hW : MW fen t r nm cnt rc rk co cu tr an sg am pv pre h) (kF : (¬ ∃ n : Nat, n ≤ 65535 ∧ cu ≤ n ∧ v = nI n) → ∀ h', MW fen t r nm cnt rc rk co cu tr an sg am pv pre h' → Post (some (.int (nI 0))) h') (kT : ∀ n : Nat, n ≤ 65535 → cu ≤ n → v = nI n → ∀ h', MW fen t r nm cnt rc rk co n tr an sg am pv pre h' → Post (some (.int (nI 1))) h') : mMet M_Mod_advance L xs (0, 0) 0 0 [.ref 24, .int v] h Post := by
  obtain ⟨h0, fkey, fdig, fnm, frc, frl, frb, fta, frd, fbl, fmo, fse, fre, fma, fend, fr, fo, ⟨ht, hr, hnm, hdg, hF, hta, hrd⟩, hB, hq, rfl⟩ := hW
  refine mMet_of rfl (Nat.le_of_ble_eq_true rfl) ?_
  have hcu := hA.2.2.2.2.2.2.1
  refine mj_iload_n d_Mod_advance_0 rfl ?_
  refine mj_aload_n d_Mod_advance_1 rfl ?_
  refine mj_get d_Mod_advance_2 fd_Mod_112 (pP_24 hB.1) rfl ?_
  refine mj_icmplt d_Mod_advance_5 14 rfl (fun c_5 => ?_) (fun c_5 => ?_)
  · refine mj_iconst d_Mod_advance_14 (nI 0) (by decide) ?_
    refine mj_iret d_Mod_advance_15 rfl (by decide) (Nat.le_refl _) (Nat.le_refl _) ?_
    refine kF (fun z => ?_) _ ⟨h0, fkey, fdig, fnm, frc, frl, frb, fta, frd, fbl, fmo, fse, fre, fma, fend, fr, fo, ⟨ht, hr, hnm, hdg, hF, hta, hrd⟩, hB, hq, rfl⟩
    obtain ⟨n, z1, z2, z3⟩ := z
    first
      | (rw [z3, nI_ltI (by omega) (by omega)] at c_5; omega)
      | exact c_11 (by rw [z3]; exact (nI_leI (by omega) (by decide)).mpr z1)
  · refine mj_iload_n d_Mod_advance_8 rfl ?_
    refine mj_ldc d_Mod_advance_9 (nI 65535) q_603 ?_
    refine mj_icmple d_Mod_advance_11 16 rfl (fun c_11 => ?_) (fun c_11 => ?_)
    · have hn0 : ¬ v < 0 := fun z => c_5 (by rw [Int32.lt_iff_toInt_lt] at z ⊢; rw [nI_toInt (by omega)]; rw [Int32.toInt_zero] at z; omega)
      obtain ⟨n, hn, rfl⟩ := nI_of hn0
      have h1 := (nI_leI hn (by decide)).mp c_11
      rw [nI_ltI hn (by omega)] at c_5
      refine mj_aload_n d_Mod_advance_16 rfl ?_
      refine mj_iload_n d_Mod_advance_17 rfl ?_
      refine mj_put d_Mod_advance_18 fd_Mod_112 ft_Mod_6 (pP_24 hB.1) (Nat.le_of_ble_eq_true rfl) rfl rfl ?_
      rw [pP_s24]
      dsimp only [List.set]
      refine mj_iconst d_Mod_advance_21 (nI 1) (by decide) ?_
      refine mj_iret d_Mod_advance_22 rfl (by decide) (Nat.le_refl _) (Nat.le_refl _) ?_
      exact kT n h1 (by omega) rfl _ ⟨h0, fkey, fdig, fnm, frc, frl, frb, fta, frd, fbl, fmo, fse, fre, fma, fend, fr, fo, ⟨ht, hr, hnm, hdg, hF, hta, hrd⟩, hB, hq, rfl⟩
    · refine mj_iconst d_Mod_advance_14 (nI 0) (by decide) ?_
      refine mj_iret d_Mod_advance_15 rfl (by decide) (Nat.le_refl _) (Nat.le_refl _) ?_
      refine kF (fun z => ?_) _ ⟨h0, fkey, fdig, fnm, frc, frl, frb, fta, frd, fbl, fmo, fse, fre, fma, fend, fr, fo, ⟨ht, hr, hnm, hdg, hF, hta, hrd⟩, hB, hq, rfl⟩
      obtain ⟨n, z1, z2, z3⟩ := z
      first
        | (rw [z3, nI_ltI (by omega) (by omega)] at c_5; omega)
        | exact c_11 (by rw [z3]; exact (nI_leI (by omega) (by decide)).mpr z1)
