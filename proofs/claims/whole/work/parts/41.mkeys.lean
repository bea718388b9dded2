theorem rkF_b {g : Nat → Nat} {i k : Nat} (hi : 4 ≤ i) (hk : k < 4) (h4 : i % 4 = 0) : rkF g (4 * i + k) = rkF g (4 * i - 16 + k) ^^^ (if k = 0 then sbN (rkF g (4 * i - 4 + (k + 1) % 4)) ^^^ rcon (i / 4) else sbN (rkF g (4 * i - 4 + (k + 1) % 4))) := by
  conv => lhs; rw [rkF]
  rw [dif_neg (by omega)]
  by_cases h0 : k = 0
  · rw [if_pos (by omega), if_pos h0, show 4 * i + k - 16 = 4 * i - 16 + k by omega, show 4 * i + k - 3 = 4 * i - 4 + (k + 1) % 4 by omega, show (4 * i + k) / 16 = i / 4 by omega, Nat.xor_assoc]
  · rw [if_neg (by omega), if_neg h0]
    by_cases h3 : k = 3
    · rw [if_neg (by omega), if_pos (by omega), show 4 * i + k - 16 = 4 * i - 16 + k by omega, show 4 * i + k - 7 = 4 * i - 4 + (k + 1) % 4 by omega]
    · rw [if_pos (by omega), show 4 * i + k - 16 = 4 * i - 16 + k by omega, show 4 * i + k - 3 = 4 * i - 4 + (k + 1) % 4 by omega]
theorem rkF_n {g : Nat → Nat} {i k : Nat} (hi : 4 ≤ i) (hk : k < 4) (h4 : i % 4 ≠ 0) : rkF g (4 * i + k) = rkF g (4 * i - 16 + k) ^^^ rkF g (4 * i - 4 + k) := by
  conv => lhs; rw [rkF]
  rw [dif_neg (by omega), if_neg (by omega), if_neg (by omega), if_neg (by omega), show 4 * i + k - 16 = 4 * i - 16 + k by omega, show 4 * i + k - 4 = 4 * i - 4 + k by omega]
theorem li_expand {L : Nat} {xs : Nat → Int32} {Post : Option Value → mHeap → Prop} {h : mHeap} {f0 fta fkey : Nat → Int32} {g : Nat → Nat} {cu tr an sg am pv tn sz : Nat} (h24 : h[24]? = some (cMod cu tr an sg am pv tn sz)) (h25 : h[25]? = some (cArr 16 fkey)) (h34 : h[34]? = some (cArr 256 fta)) (h35 : h[35]? = some (cArr 176 f0)) (hta : FA 256 sbN fta) (hb : Bt 16 g) {i bg : Nat} (hi : 4 ≤ i ∧ i < 44) (hbg : (i % 4 = 0 ∧ bg = 1) ∨ (i % 4 ≠ 0 ∧ bg = 0)) (ko : ∀ (f : Nat → Int32) (w3 w4 w5 : Option Value), FA (4 * (i + 1)) (rkF g) f → mGo M_Mod_expand L xs (1, 24) 0 0 Post 0 0 30 [some (.ref 24), some (.int (nI (rcon ((i + 1 + 3) / 4)))), some (.int (nI (i + 1))), w3, w4, w5] [] (h.set 35 (cArr 176 f))) : ∀ (m k : Nat) (f : Nat → Int32) (w5 : Option Value), k + m = 4 → FA (4 * i + k) (rkF g) f → mGo M_Mod_expand L xs (1, 24) 0 0 Post 0 0 51 [some (.ref 24), some (.int (nI (rcon ((i + 3) / 4)))), some (.int (nI i)), some (.int (nI bg)), some (.int (nI k)), w5] [] (h.set 35 (cArr 176 f)) := by
  intro m
  induction m with
  | zero =>
    intro k f w5 hk hf
    refine mj_iload d_Mod_expand_51 rfl ?_
    refine mj_iconst d_Mod_expand_53 (nI 4) (by decide) ?_
    refine mj_icmpgeN d_Mod_expand_54 155 rfl (by omega) (fun c_54 => ?_) (fun c_54 => ?_)
    · refine mj_iload_n d_Mod_expand_155 rfl ?_
      refine mj_ifeqN d_Mod_expand_156 167 rfl (by omega) (fun c_156 => ?_) (fun c_156 => ?_)
      · refine mj_iload_n d_Mod_expand_167 rfl ?_
        refine mj_istore_n d_Mod_expand_168 (by decide) ?_
        dsimp only [mSt1, mSt2, mKill, Nat.reduceAdd]
        refine mj_iinc d_Mod_expand_169 rfl (by decide) (nI (i + 1)) (nI_1 i) ?_
        dsimp only [mSt1, mSt2, mKill, Nat.reduceAdd]
        refine mj_goto d_Mod_expand_172 30 rfl ?_
        first
          | omega
          | (have e : x2 (rcon ((i + 3) / 4)) = rcon ((i + 1 + 3) / 4) := by
               obtain ⟨c, hc⟩ : ∃ c, (i + 3) / 4 = c + 1 := ⟨(i + 3) / 4 - 1, by omega⟩
               rw [hc, show (i + 1 + 3) / 4 = c + 1 + 1 by omega]; rfl
             rw [e]; exact ko f _ _ _ (by rw [show 4 * (i + 1) = 4 * i + k by omega]; exact hf))
          | (rw [show (i + 3) / 4 = (i + 1 + 3) / 4 by omega]; exact ko f _ _ _ (by rw [show 4 * (i + 1) = 4 * i + k by omega]; exact hf))
      · refine mj_iload_n d_Mod_expand_159 rfl ?_
        refine mj_iconst d_Mod_expand_160 (nI 2) (by decide) ?_
        refine mj_static (d' := (0, 0)) (mc := 0) (ms := 0) (As := [_, _]) d_Mod_expand_161 cw_Mod_times q_481 q_482 rfl rfl (mRoomB rfl) ?_
        refine s_Mod_times (rcon_lt _ (by omega)) (by decide) ?_
        rw [tm_p _ (rcon_lt _ (by omega))]
        refine mj_goto d_Mod_expand_164 168 rfl ?_
        refine mj_istore_n d_Mod_expand_168 (by decide) ?_
        dsimp only [mSt1, mSt2, mKill, Nat.reduceAdd]
        refine mj_iinc d_Mod_expand_169 rfl (by decide) (nI (i + 1)) (nI_1 i) ?_
        dsimp only [mSt1, mSt2, mKill, Nat.reduceAdd]
        refine mj_goto d_Mod_expand_172 30 rfl ?_
        first
          | omega
          | (have e : x2 (rcon ((i + 3) / 4)) = rcon ((i + 1 + 3) / 4) := by
               obtain ⟨c, hc⟩ : ∃ c, (i + 3) / 4 = c + 1 := ⟨(i + 3) / 4 - 1, by omega⟩
               rw [hc, show (i + 1 + 3) / 4 = c + 1 + 1 by omega]; rfl
             rw [e]; exact ko f _ _ _ (by rw [show 4 * (i + 1) = 4 * i + k by omega]; exact hf))
          | (rw [show (i + 3) / 4 = (i + 1 + 3) / 4 by omega]; exact ko f _ _ _ (by rw [show 4 * (i + 1) = 4 * i + k by omega]; exact hf))
    · omega
  | succ m ih =>
    intro k f w5 hk hf
    have hq : i % 4 = 0 → (i + 3) / 4 = i / 4 := fun _ => by omega
    refine mj_iload d_Mod_expand_51 rfl ?_
    refine mj_iconst d_Mod_expand_53 (nI 4) (by decide) ?_
    refine mj_icmpgeN d_Mod_expand_54 155 rfl (by omega) (fun c_54 => ?_) (fun c_54 => ?_)
    · omega
    · refine mj_iload_n d_Mod_expand_57 rfl ?_
      refine mj_ifeqN d_Mod_expand_58 86 rfl (by omega) (fun c_58 => ?_) (fun c_58 => ?_)
      · refine mj_aload_n d_Mod_expand_86 rfl ?_
        refine mj_get d_Mod_expand_87 fd_Mod_44 (gne h24 (by decide)) rfl ?_
        refine mj_iconst d_Mod_expand_90 (nI 4) (by decide) ?_
        refine mj_iload_n d_Mod_expand_91 rfl ?_
        refine mj_imul d_Mod_expand_92 ?_
        rw [pk_mul]
        refine mj_iconst d_Mod_expand_93 (nI 4) (by decide) ?_
        refine mj_isub d_Mod_expand_94 ?_
        rw [pk_sub (by omega)]
        refine mj_iload d_Mod_expand_95 rfl ?_
        refine mj_iadd d_Mod_expand_97 ?_
        rw [nI_add]
        refine mj_ialdN d_Mod_expand_98 (gself h35) (by omega) ?_
        rw [hf _ (by omega)]
        refine mj_istore d_Mod_expand_99 (by decide) ?_
        dsimp only [mSt1, mSt2, mKill, Nat.reduceAdd]
        refine mj_iload_n d_Mod_expand_101 rfl ?_
        refine mj_ifeqN d_Mod_expand_102 117 rfl (by omega) (fun c_102 => ?_) (fun c_102 => ?_)
        · refine mj_iload d_Mod_expand_117 rfl ?_
          refine mj_istore d_Mod_expand_119 (by decide) ?_
          dsimp only [mSt1, mSt2, mKill, Nat.reduceAdd]
          refine mj_aload_n d_Mod_expand_121 rfl ?_
          refine mj_get d_Mod_expand_122 fd_Mod_44 (gne h24 (by decide)) rfl ?_
          refine mj_iconst d_Mod_expand_125 (nI 4) (by decide) ?_
          refine mj_iload_n d_Mod_expand_126 rfl ?_
          refine mj_imul d_Mod_expand_127 ?_
          refine mj_iload d_Mod_expand_128 rfl ?_
          refine mj_iadd d_Mod_expand_130 ?_
          rw [pk_mul, nI_add]
          refine mj_aload_n d_Mod_expand_131 rfl ?_
          refine mj_get d_Mod_expand_132 fd_Mod_44 (gne h24 (by decide)) rfl ?_
          refine mj_iconst d_Mod_expand_135 (nI 4) (by decide) ?_
          refine mj_iload_n d_Mod_expand_136 rfl ?_
          refine mj_imul d_Mod_expand_137 ?_
          rw [pk_mul]
          refine mj_bipush d_Mod_expand_138 (nI 16) (by decide) ?_
          refine mj_isub d_Mod_expand_140 ?_
          rw [pk_sub (by omega)]
          refine mj_iload d_Mod_expand_141 rfl ?_
          refine mj_iadd d_Mod_expand_143 ?_
          rw [nI_add]
          refine mj_ialdN d_Mod_expand_144 (gself h35) (by omega) ?_
          rw [hf _ (by omega)]
          refine mj_iload d_Mod_expand_145 rfl ?_
          refine mj_ixor d_Mod_expand_147 ?_
          rw [nI_xor]
          refine mj_iastN d_Mod_expand_148 (gself h35) (by omega) ?_
          rw [List.set_set]
          refine mj_iinc d_Mod_expand_149 rfl (by decide) (nI (k + 1)) (nI_1 k) ?_
          dsimp only [mSt1, mSt2, mKill, Nat.reduceAdd]
          refine mj_goto d_Mod_expand_152 51 rfl ?_
          first
            | omega
            | (refine ih (k + 1) _ _ (by omega) ?_
               have e := FA_s hf
               first
                 | (rw [rkF_b hi.1 (by omega) (by omega), if_pos (by omega), ← hq (by omega)] at e; exact e)
                 | (rw [rkF_b hi.1 (by omega) (by omega), if_neg (by omega)] at e; exact e)
                 | (rw [rkF_n hi.1 (by omega) (by omega)] at e; exact e))
        · refine mj_iload d_Mod_expand_105 rfl ?_
          refine mj_ifneN d_Mod_expand_107 117 rfl (by omega) (fun c_107 => ?_) (fun c_107 => ?_)
          · refine mj_iload d_Mod_expand_117 rfl ?_
            refine mj_istore d_Mod_expand_119 (by decide) ?_
            dsimp only [mSt1, mSt2, mKill, Nat.reduceAdd]
            refine mj_aload_n d_Mod_expand_121 rfl ?_
            refine mj_get d_Mod_expand_122 fd_Mod_44 (gne h24 (by decide)) rfl ?_
            refine mj_iconst d_Mod_expand_125 (nI 4) (by decide) ?_
            refine mj_iload_n d_Mod_expand_126 rfl ?_
            refine mj_imul d_Mod_expand_127 ?_
            refine mj_iload d_Mod_expand_128 rfl ?_
            refine mj_iadd d_Mod_expand_130 ?_
            rw [pk_mul, nI_add]
            refine mj_aload_n d_Mod_expand_131 rfl ?_
            refine mj_get d_Mod_expand_132 fd_Mod_44 (gne h24 (by decide)) rfl ?_
            refine mj_iconst d_Mod_expand_135 (nI 4) (by decide) ?_
            refine mj_iload_n d_Mod_expand_136 rfl ?_
            refine mj_imul d_Mod_expand_137 ?_
            rw [pk_mul]
            refine mj_bipush d_Mod_expand_138 (nI 16) (by decide) ?_
            refine mj_isub d_Mod_expand_140 ?_
            rw [pk_sub (by omega)]
            refine mj_iload d_Mod_expand_141 rfl ?_
            refine mj_iadd d_Mod_expand_143 ?_
            rw [nI_add]
            refine mj_ialdN d_Mod_expand_144 (gself h35) (by omega) ?_
            rw [hf _ (by omega)]
            refine mj_iload d_Mod_expand_145 rfl ?_
            refine mj_ixor d_Mod_expand_147 ?_
            rw [nI_xor]
            refine mj_iastN d_Mod_expand_148 (gself h35) (by omega) ?_
            rw [List.set_set]
            refine mj_iinc d_Mod_expand_149 rfl (by decide) (nI (k + 1)) (nI_1 k) ?_
            dsimp only [mSt1, mSt2, mKill, Nat.reduceAdd]
            refine mj_goto d_Mod_expand_152 51 rfl ?_
            first
              | omega
              | (refine ih (k + 1) _ _ (by omega) ?_
                 have e := FA_s hf
                 first
                   | (rw [rkF_b hi.1 (by omega) (by omega), if_pos (by omega), ← hq (by omega)] at e; exact e)
                   | (rw [rkF_b hi.1 (by omega) (by omega), if_neg (by omega)] at e; exact e)
                   | (rw [rkF_n hi.1 (by omega) (by omega)] at e; exact e))
          · refine mj_iload d_Mod_expand_110 rfl ?_
            refine mj_iload_n d_Mod_expand_112 rfl ?_
            refine mj_ixor d_Mod_expand_113 ?_
            rw [nI_xor]
            refine mj_goto d_Mod_expand_114 119 rfl ?_
            refine mj_istore d_Mod_expand_119 (by decide) ?_
            dsimp only [mSt1, mSt2, mKill, Nat.reduceAdd]
            refine mj_aload_n d_Mod_expand_121 rfl ?_
            refine mj_get d_Mod_expand_122 fd_Mod_44 (gne h24 (by decide)) rfl ?_
            refine mj_iconst d_Mod_expand_125 (nI 4) (by decide) ?_
            refine mj_iload_n d_Mod_expand_126 rfl ?_
            refine mj_imul d_Mod_expand_127 ?_
            refine mj_iload d_Mod_expand_128 rfl ?_
            refine mj_iadd d_Mod_expand_130 ?_
            rw [pk_mul, nI_add]
            refine mj_aload_n d_Mod_expand_131 rfl ?_
            refine mj_get d_Mod_expand_132 fd_Mod_44 (gne h24 (by decide)) rfl ?_
            refine mj_iconst d_Mod_expand_135 (nI 4) (by decide) ?_
            refine mj_iload_n d_Mod_expand_136 rfl ?_
            refine mj_imul d_Mod_expand_137 ?_
            rw [pk_mul]
            refine mj_bipush d_Mod_expand_138 (nI 16) (by decide) ?_
            refine mj_isub d_Mod_expand_140 ?_
            rw [pk_sub (by omega)]
            refine mj_iload d_Mod_expand_141 rfl ?_
            refine mj_iadd d_Mod_expand_143 ?_
            rw [nI_add]
            refine mj_ialdN d_Mod_expand_144 (gself h35) (by omega) ?_
            rw [hf _ (by omega)]
            refine mj_iload d_Mod_expand_145 rfl ?_
            refine mj_ixor d_Mod_expand_147 ?_
            rw [nI_xor]
            refine mj_iastN d_Mod_expand_148 (gself h35) (by omega) ?_
            rw [List.set_set]
            refine mj_iinc d_Mod_expand_149 rfl (by decide) (nI (k + 1)) (nI_1 k) ?_
            dsimp only [mSt1, mSt2, mKill, Nat.reduceAdd]
            refine mj_goto d_Mod_expand_152 51 rfl ?_
            first
              | omega
              | (refine ih (k + 1) _ _ (by omega) ?_
                 have e := FA_s hf
                 first
                   | (rw [rkF_b hi.1 (by omega) (by omega), if_pos (by omega), ← hq (by omega)] at e; exact e)
                   | (rw [rkF_b hi.1 (by omega) (by omega), if_neg (by omega)] at e; exact e)
                   | (rw [rkF_n hi.1 (by omega) (by omega)] at e; exact e))
      · refine mj_aload_n d_Mod_expand_61 rfl ?_
        refine mj_get d_Mod_expand_62 fd_Mod_41 (gne h24 (by decide)) rfl ?_
        refine mj_aload_n d_Mod_expand_65 rfl ?_
        refine mj_get d_Mod_expand_66 fd_Mod_44 (gne h24 (by decide)) rfl ?_
        refine mj_iconst d_Mod_expand_69 (nI 4) (by decide) ?_
        refine mj_iload_n d_Mod_expand_70 rfl ?_
        refine mj_imul d_Mod_expand_71 ?_
        rw [pk_mul]
        refine mj_iconst d_Mod_expand_72 (nI 4) (by decide) ?_
        refine mj_isub d_Mod_expand_73 ?_
        rw [pk_sub (by omega)]
        refine mj_iload d_Mod_expand_74 rfl ?_
        refine mj_iconst d_Mod_expand_76 (nI 1) (by decide) ?_
        refine mj_iadd d_Mod_expand_77 ?_
        rw [nI_add]
        refine mj_iconst d_Mod_expand_78 (nI 4) (by decide) ?_
        refine mj_irem d_Mod_expand_79 (by decide) ?_
        rw [pk_rem (by omega) (by decide) (by decide)]
        refine mj_iadd d_Mod_expand_80 ?_
        rw [nI_add]
        refine mj_ialdN d_Mod_expand_81 (gself h35) (by omega) ?_
        rw [hf _ (by omega)]
        refine mj_ialdN d_Mod_expand_82 (gne h34 (by decide)) (by have := rkF_lt hb (4 * i - 4 + (k + 1) % 4) (by omega); omega) ?_
        rw [hta _ (rkF_lt hb _ (by omega))]
        refine mj_goto d_Mod_expand_83 99 rfl ?_
        refine mj_istore d_Mod_expand_99 (by decide) ?_
        dsimp only [mSt1, mSt2, mKill, Nat.reduceAdd]
        refine mj_iload_n d_Mod_expand_101 rfl ?_
        refine mj_ifeqN d_Mod_expand_102 117 rfl (by omega) (fun c_102 => ?_) (fun c_102 => ?_)
        · refine mj_iload d_Mod_expand_117 rfl ?_
          refine mj_istore d_Mod_expand_119 (by decide) ?_
          dsimp only [mSt1, mSt2, mKill, Nat.reduceAdd]
          refine mj_aload_n d_Mod_expand_121 rfl ?_
          refine mj_get d_Mod_expand_122 fd_Mod_44 (gne h24 (by decide)) rfl ?_
          refine mj_iconst d_Mod_expand_125 (nI 4) (by decide) ?_
          refine mj_iload_n d_Mod_expand_126 rfl ?_
          refine mj_imul d_Mod_expand_127 ?_
          refine mj_iload d_Mod_expand_128 rfl ?_
          refine mj_iadd d_Mod_expand_130 ?_
          rw [pk_mul, nI_add]
          refine mj_aload_n d_Mod_expand_131 rfl ?_
          refine mj_get d_Mod_expand_132 fd_Mod_44 (gne h24 (by decide)) rfl ?_
          refine mj_iconst d_Mod_expand_135 (nI 4) (by decide) ?_
          refine mj_iload_n d_Mod_expand_136 rfl ?_
          refine mj_imul d_Mod_expand_137 ?_
          rw [pk_mul]
          refine mj_bipush d_Mod_expand_138 (nI 16) (by decide) ?_
          refine mj_isub d_Mod_expand_140 ?_
          rw [pk_sub (by omega)]
          refine mj_iload d_Mod_expand_141 rfl ?_
          refine mj_iadd d_Mod_expand_143 ?_
          rw [nI_add]
          refine mj_ialdN d_Mod_expand_144 (gself h35) (by omega) ?_
          rw [hf _ (by omega)]
          refine mj_iload d_Mod_expand_145 rfl ?_
          refine mj_ixor d_Mod_expand_147 ?_
          rw [nI_xor]
          refine mj_iastN d_Mod_expand_148 (gself h35) (by omega) ?_
          rw [List.set_set]
          refine mj_iinc d_Mod_expand_149 rfl (by decide) (nI (k + 1)) (nI_1 k) ?_
          dsimp only [mSt1, mSt2, mKill, Nat.reduceAdd]
          refine mj_goto d_Mod_expand_152 51 rfl ?_
          first
            | omega
            | (refine ih (k + 1) _ _ (by omega) ?_
               have e := FA_s hf
               first
                 | (rw [rkF_b hi.1 (by omega) (by omega), if_pos (by omega), ← hq (by omega)] at e; exact e)
                 | (rw [rkF_b hi.1 (by omega) (by omega), if_neg (by omega)] at e; exact e)
                 | (rw [rkF_n hi.1 (by omega) (by omega)] at e; exact e))
        · refine mj_iload d_Mod_expand_105 rfl ?_
          refine mj_ifneN d_Mod_expand_107 117 rfl (by omega) (fun c_107 => ?_) (fun c_107 => ?_)
          · refine mj_iload d_Mod_expand_117 rfl ?_
            refine mj_istore d_Mod_expand_119 (by decide) ?_
            dsimp only [mSt1, mSt2, mKill, Nat.reduceAdd]
            refine mj_aload_n d_Mod_expand_121 rfl ?_
            refine mj_get d_Mod_expand_122 fd_Mod_44 (gne h24 (by decide)) rfl ?_
            refine mj_iconst d_Mod_expand_125 (nI 4) (by decide) ?_
            refine mj_iload_n d_Mod_expand_126 rfl ?_
            refine mj_imul d_Mod_expand_127 ?_
            refine mj_iload d_Mod_expand_128 rfl ?_
            refine mj_iadd d_Mod_expand_130 ?_
            rw [pk_mul, nI_add]
            refine mj_aload_n d_Mod_expand_131 rfl ?_
            refine mj_get d_Mod_expand_132 fd_Mod_44 (gne h24 (by decide)) rfl ?_
            refine mj_iconst d_Mod_expand_135 (nI 4) (by decide) ?_
            refine mj_iload_n d_Mod_expand_136 rfl ?_
            refine mj_imul d_Mod_expand_137 ?_
            rw [pk_mul]
            refine mj_bipush d_Mod_expand_138 (nI 16) (by decide) ?_
            refine mj_isub d_Mod_expand_140 ?_
            rw [pk_sub (by omega)]
            refine mj_iload d_Mod_expand_141 rfl ?_
            refine mj_iadd d_Mod_expand_143 ?_
            rw [nI_add]
            refine mj_ialdN d_Mod_expand_144 (gself h35) (by omega) ?_
            rw [hf _ (by omega)]
            refine mj_iload d_Mod_expand_145 rfl ?_
            refine mj_ixor d_Mod_expand_147 ?_
            rw [nI_xor]
            refine mj_iastN d_Mod_expand_148 (gself h35) (by omega) ?_
            rw [List.set_set]
            refine mj_iinc d_Mod_expand_149 rfl (by decide) (nI (k + 1)) (nI_1 k) ?_
            dsimp only [mSt1, mSt2, mKill, Nat.reduceAdd]
            refine mj_goto d_Mod_expand_152 51 rfl ?_
            first
              | omega
              | (refine ih (k + 1) _ _ (by omega) ?_
                 have e := FA_s hf
                 first
                   | (rw [rkF_b hi.1 (by omega) (by omega), if_pos (by omega), ← hq (by omega)] at e; exact e)
                   | (rw [rkF_b hi.1 (by omega) (by omega), if_neg (by omega)] at e; exact e)
                   | (rw [rkF_n hi.1 (by omega) (by omega)] at e; exact e))
          · refine mj_iload d_Mod_expand_110 rfl ?_
            refine mj_iload_n d_Mod_expand_112 rfl ?_
            refine mj_ixor d_Mod_expand_113 ?_
            rw [nI_xor]
            refine mj_goto d_Mod_expand_114 119 rfl ?_
            refine mj_istore d_Mod_expand_119 (by decide) ?_
            dsimp only [mSt1, mSt2, mKill, Nat.reduceAdd]
            refine mj_aload_n d_Mod_expand_121 rfl ?_
            refine mj_get d_Mod_expand_122 fd_Mod_44 (gne h24 (by decide)) rfl ?_
            refine mj_iconst d_Mod_expand_125 (nI 4) (by decide) ?_
            refine mj_iload_n d_Mod_expand_126 rfl ?_
            refine mj_imul d_Mod_expand_127 ?_
            refine mj_iload d_Mod_expand_128 rfl ?_
            refine mj_iadd d_Mod_expand_130 ?_
            rw [pk_mul, nI_add]
            refine mj_aload_n d_Mod_expand_131 rfl ?_
            refine mj_get d_Mod_expand_132 fd_Mod_44 (gne h24 (by decide)) rfl ?_
            refine mj_iconst d_Mod_expand_135 (nI 4) (by decide) ?_
            refine mj_iload_n d_Mod_expand_136 rfl ?_
            refine mj_imul d_Mod_expand_137 ?_
            rw [pk_mul]
            refine mj_bipush d_Mod_expand_138 (nI 16) (by decide) ?_
            refine mj_isub d_Mod_expand_140 ?_
            rw [pk_sub (by omega)]
            refine mj_iload d_Mod_expand_141 rfl ?_
            refine mj_iadd d_Mod_expand_143 ?_
            rw [nI_add]
            refine mj_ialdN d_Mod_expand_144 (gself h35) (by omega) ?_
            rw [hf _ (by omega)]
            refine mj_iload d_Mod_expand_145 rfl ?_
            refine mj_ixor d_Mod_expand_147 ?_
            rw [nI_xor]
            refine mj_iastN d_Mod_expand_148 (gself h35) (by omega) ?_
            rw [List.set_set]
            refine mj_iinc d_Mod_expand_149 rfl (by decide) (nI (k + 1)) (nI_1 k) ?_
            dsimp only [mSt1, mSt2, mKill, Nat.reduceAdd]
            refine mj_goto d_Mod_expand_152 51 rfl ?_
            first
              | omega
              | (refine ih (k + 1) _ _ (by omega) ?_
                 have e := FA_s hf
                 first
                   | (rw [rkF_b hi.1 (by omega) (by omega), if_pos (by omega), ← hq (by omega)] at e; exact e)
                   | (rw [rkF_b hi.1 (by omega) (by omega), if_neg (by omega)] at e; exact e)
                   | (rw [rkF_n hi.1 (by omega) (by omega)] at e; exact e))
theorem lo_expand {L : Nat} {xs : Nat → Int32} {Post : Option Value → mHeap → Prop} {h : mHeap} {f0 fta fkey : Nat → Int32} {g : Nat → Nat} {cu tr an sg am pv tn sz : Nat} (h24 : h[24]? = some (cMod cu tr an sg am pv tn sz)) (h25 : h[25]? = some (cArr 16 fkey)) (h34 : h[34]? = some (cArr 256 fta)) (h35 : h[35]? = some (cArr 176 f0)) (hta : FA 256 sbN fta) (hb : Bt 16 g) (kP : ∀ f, FA 176 (rkF g) f → Post none (h.set 35 (cArr 176 f))) : ∀ (m i : Nat) (f : Nat → Int32) (w3 w4 w5 : Option Value), i + m = 44 → 4 ≤ i → FA (4 * i) (rkF g) f → mGo M_Mod_expand L xs (1, 24) 0 0 Post 0 0 30 [some (.ref 24), some (.int (nI (rcon ((i + 3) / 4)))), some (.int (nI i)), w3, w4, w5] [] (h.set 35 (cArr 176 f)) := by
  intro m
  induction m with
  | zero =>
    intro i f w3 w4 w5 hi h4 hf
    refine mj_iload_n d_Mod_expand_30 rfl ?_
    refine mj_bipush d_Mod_expand_31 (nI 44) (by decide) ?_
    refine mj_icmpgeN d_Mod_expand_33 175 rfl (by omega) (fun c_33 => ?_) (fun c_33 => ?_)
    · refine mj_vret d_Mod_expand_175 rfl (Nat.le_refl _) (Nat.le_refl _) ?_
      exact kP f (FA_le hf (by omega))
    · omega
  | succ m ih =>
    intro i f w3 w4 w5 hi h4 hf
    refine mj_iload_n d_Mod_expand_30 rfl ?_
    refine mj_bipush d_Mod_expand_31 (nI 44) (by decide) ?_
    refine mj_icmpgeN d_Mod_expand_33 175 rfl (by omega) (fun c_33 => ?_) (fun c_33 => ?_)
    · omega
    · refine mj_iload_n d_Mod_expand_36 rfl ?_
      refine mj_iconst d_Mod_expand_37 (nI 4) (by decide) ?_
      refine mj_irem d_Mod_expand_38 (by decide) ?_
      rw [pk_rem (by omega) (by decide) (by decide)]
      refine mj_ifneN d_Mod_expand_39 46 rfl (by omega) (fun c_39 => ?_) (fun c_39 => ?_)
      · refine mj_iconst d_Mod_expand_46 (nI 0) (by decide) ?_
        refine mj_istore_n d_Mod_expand_47 (by decide) ?_
        dsimp only [mSt1, mSt2, mKill, Nat.reduceAdd]
        refine mj_iconst d_Mod_expand_48 (nI 0) (by decide) ?_
        refine mj_istore d_Mod_expand_49 (by decide) ?_
        dsimp only [mSt1, mSt2, mKill, Nat.reduceAdd]
        refine li_expand h24 h25 h34 h35 hta hb (by omega) (by omega) (fun f w3 w4 w5 hf => ih (i + 1) f w3 w4 w5 (by omega) (by omega) hf) 4 0 f _ (by omega) hf
      · refine mj_iconst d_Mod_expand_42 (nI 1) (by decide) ?_
        refine mj_goto d_Mod_expand_43 47 rfl ?_
        refine mj_istore_n d_Mod_expand_47 (by decide) ?_
        dsimp only [mSt1, mSt2, mKill, Nat.reduceAdd]
        refine mj_iconst d_Mod_expand_48 (nI 0) (by decide) ?_
        refine mj_istore d_Mod_expand_49 (by decide) ?_
        dsimp only [mSt1, mSt2, mKill, Nat.reduceAdd]
        refine li_expand h24 h25 h34 h35 hta hb (by omega) (by omega) (fun f w3 w4 w5 hf => ih (i + 1) f w3 w4 w5 (by omega) (by omega) hf) 4 0 f _ (by omega) hf
theorem lk_expand {L : Nat} {xs : Nat → Int32} {Post : Option Value → mHeap → Prop} {h : mHeap} {f0 fta fkey : Nat → Int32} {g : Nat → Nat} {cu tr an sg am pv tn sz : Nat} (h24 : h[24]? = some (cMod cu tr an sg am pv tn sz)) (h25 : h[25]? = some (cArr 16 fkey)) (h34 : h[34]? = some (cArr 256 fta)) (h35 : h[35]? = some (cArr 176 f0)) (hta : FA 256 sbN fta) (hb : Bt 16 g) (hg : FA 16 g fkey) (kP : ∀ f, FA 176 (rkF g) f → Post none (h.set 35 (cArr 176 f))) : ∀ (m i : Nat) (f : Nat → Int32), i + m = 16 → FA i g f → mGo M_Mod_expand L xs (1, 24) 0 0 Post 0 0 2 [some (.ref 24), some (.int (nI i)), none, none, none, none] [] (h.set 35 (cArr 176 f)) := by
  intro m
  induction m with
  | zero =>
    intro i f hi hf
    refine mj_iload_n d_Mod_expand_2 rfl ?_
    refine mj_bipush d_Mod_expand_3 (nI 16) (by decide) ?_
    refine mj_icmpgeN d_Mod_expand_5 26 rfl (by omega) (fun c_5 => ?_) (fun c_5 => ?_)
    · refine mj_iconst d_Mod_expand_26 (nI 1) (by decide) ?_
      refine mj_istore_n d_Mod_expand_27 (by decide) ?_
      dsimp only [mSt1, mSt2, mKill, Nat.reduceAdd]
      refine mj_iconst d_Mod_expand_28 (nI 4) (by decide) ?_
      refine mj_istore_n d_Mod_expand_29 (by decide) ?_
      dsimp only [mSt1, mSt2, mKill, Nat.reduceAdd]
      exact lo_expand h24 h25 h34 h35 hta hb kP 40 4 f _ _ _ (by omega) (by omega) (FA_c (FA_le hf (by omega)) (fun j hj => by rw [rkF, dif_pos (by omega)]))
    · omega
  | succ m ih =>
    intro i f hi hf
    refine mj_iload_n d_Mod_expand_2 rfl ?_
    refine mj_bipush d_Mod_expand_3 (nI 16) (by decide) ?_
    refine mj_icmpgeN d_Mod_expand_5 26 rfl (by omega) (fun c_5 => ?_) (fun c_5 => ?_)
    · omega
    · refine mj_aload_n d_Mod_expand_8 rfl ?_
      refine mj_get d_Mod_expand_9 fd_Mod_44 (gne h24 (by decide)) rfl ?_
      refine mj_iload_n d_Mod_expand_12 rfl ?_
      refine mj_aload_n d_Mod_expand_13 rfl ?_
      refine mj_get d_Mod_expand_14 fd_Mod_7 (gne h24 (by decide)) rfl ?_
      refine mj_iload_n d_Mod_expand_17 rfl ?_
      refine mj_ialdN d_Mod_expand_18 (gne h25 (by decide)) (by omega) ?_
      rw [hg _ (by omega)]
      refine mj_iastN d_Mod_expand_19 (gself h35) (by omega) ?_
      rw [List.set_set]
      refine mj_iinc d_Mod_expand_20 rfl (by decide) (nI (i + 1)) (nI_1 i) ?_
      dsimp only [mSt1, mSt2, mKill, Nat.reduceAdd]
      refine mj_goto d_Mod_expand_23 2 rfl ?_
      exact ih (i + 1) _ (by omega) (FA_s hf)
theorem s_Mod_expand {L : Nat} {xs : Nat → Int32} {Post : Option Value → mHeap → Prop} {h : mHeap} {f0 fta fkey : Nat → Int32} {g : Nat → Nat} {cu tr an sg am pv tn sz : Nat} (h24 : h[24]? = some (cMod cu tr an sg am pv tn sz)) (h25 : h[25]? = some (cArr 16 fkey)) (h34 : h[34]? = some (cArr 256 fta)) (h35 : h[35]? = some (cArr 176 f0)) (hta : FA 256 sbN fta) (hb : Bt 16 g) (hg : FA 16 g fkey) (kP : ∀ f, FA 176 (rkF g) f → Post none (h.set 35 (cArr 176 f))) : mMet M_Mod_expand L xs (1, 24) 0 0 [.ref 24] h Post := by
  refine mMet_of rfl (Nat.le_of_ble_eq_true rfl) ?_
  refine mj_iconst d_Mod_expand_0 (nI 0) (by decide) ?_
  refine mj_istore_n d_Mod_expand_1 (by decide) ?_
  dsimp only [mSt1, mSt2, mKill, Nat.reduceAdd]
  have e := lk_expand h24 h25 h34 h35 hta hb hg kP (L := L) (xs := xs) 16 0 f0 (by omega) (fun j hj => by omega)
  rw [set_same h35] at e
  exact e
theorem or_1 : ∀ a, a < 256 → ∀ n, n < 2 → (2 * a + n) % 256 = (2 * a % 256) ||| n := by decide +kernel
theorem dbl0_m {g : Nat → Nat} {k : Nat} (hb : Bt 16 g) (hk : k < 16) : dbl0 g k = (2 * g k + (if k < 15 then g (k + 1) / 128 else 0)) % 256 := by
  unfold dbl0
  by_cases h : k < 15
  · have := hb (k + 1) (by omega)
    rw [if_pos (by omega), if_pos h, or_1 _ (hb k hk) _ (by omega)]
  · rw [if_neg (by omega), if_neg h, or_1 _ (hb k hk) _ (by omega)]
theorem lp_dblM {L : Nat} {xs : Nat → Int32} {Post : Option Value → mHeap → Prop} {h : mHeap} {fm : Nat → Int32} {g : Nat → Nat} {cu tr an sg am pv tn sz : Nat} (h24 : h[24]? = some (cMod cu tr an sg am pv tn sz)) (h40 : h[40]? = some (cArr 16 fm)) (hg : FA 16 g fm) (hb : Bt 16 g) (kP : ∀ f, FA 16 (dbl g) f → Post none (h.set 40 (cArr 16 f))) : ∀ (m k : Nat) (f : Nat → Int32) (w3 : Option Value), k + m = 16 → FA 16 (pu k (dbl0 g) g) f → mGo M_Mod_doubleMask L xs (0, 0) 0 0 Post 0 0 12 [some (.ref 24), some (.int (nI (g 0 / 128))), some (.int (nI k)), w3] [] (h.set 40 (cArr 16 f)) := by
  intro m
  induction m with
  | zero =>
    intro k f w3 hk hf
    have ht := pu_e hf (by omega)
    have b0 := hb 0 (by decide)
    refine mj_iload_n d_Mod_doubleMask_12 rfl ?_
    refine mj_bipush d_Mod_doubleMask_13 (nI 16) (by decide) ?_
    refine mj_icmpgeN d_Mod_doubleMask_15 66 rfl (by omega) (fun c_15 => ?_) (fun c_15 => ?_)
    · refine mj_aload_n d_Mod_doubleMask_66 rfl ?_
      refine mj_get d_Mod_doubleMask_67 fd_Mod_59 (gne h24 (by decide)) rfl ?_
      refine mj_bipush d_Mod_doubleMask_70 (nI 15) (by decide) ?_
      refine mj_iload_n d_Mod_doubleMask_72 rfl ?_
      refine mj_iconst d_Mod_doubleMask_73 (nI 1) (by decide) ?_
      refine mj_icmpneN d_Mod_doubleMask_74 91 rfl (by omega) (fun c_74 => ?_) (fun c_74 => ?_)
      · refine mj_aload_n d_Mod_doubleMask_91 rfl ?_
        refine mj_get d_Mod_doubleMask_92 fd_Mod_59 (gne h24 (by decide)) rfl ?_
        refine mj_bipush d_Mod_doubleMask_95 (nI 15) (by decide) ?_
        refine mj_ialdN d_Mod_doubleMask_97 (gself h40) (by omega) ?_
        rw [ht 15 (by decide)]
        refine mj_iastN d_Mod_doubleMask_98 (gself h40) (by omega) ?_
        rw [List.set_set]
        refine mj_vret d_Mod_doubleMask_99 rfl (Nat.le_refl _) (Nat.le_refl _) ?_
        have b0 := hb 0 (by decide)
        first
          | exact kP _ (dbl_hi ht (by omega))
          | (refine kP _ (fun j hj => ?_)
             by_cases e : j = 15
             · subst e; rw [pk_us, dbl, if_neg (fun z => by omega)]
             · rw [pk_un e]; exact dbl_lo ht (by omega) j hj)
      · refine mj_aload_n d_Mod_doubleMask_77 rfl ?_
        refine mj_get d_Mod_doubleMask_78 fd_Mod_59 (gne h24 (by decide)) rfl ?_
        refine mj_bipush d_Mod_doubleMask_81 (nI 15) (by decide) ?_
        refine mj_ialdN d_Mod_doubleMask_83 (gself h40) (by omega) ?_
        rw [ht 15 (by decide)]
        refine mj_sipush d_Mod_doubleMask_84 (nI 135) (by decide) ?_
        refine mj_ixor d_Mod_doubleMask_87 ?_
        rw [nI_xor]
        refine mj_goto d_Mod_doubleMask_88 98 rfl ?_
        refine mj_iastN d_Mod_doubleMask_98 (gself h40) (by omega) ?_
        rw [List.set_set]
        refine mj_vret d_Mod_doubleMask_99 rfl (Nat.le_refl _) (Nat.le_refl _) ?_
        have b0 := hb 0 (by decide)
        first
          | exact kP _ (dbl_hi ht (by omega))
          | (refine kP _ (fun j hj => ?_)
             by_cases e : j = 15
             · subst e; rw [pk_us, dbl, if_neg (fun z => by omega)]
             · rw [pk_un e]; exact dbl_lo ht (by omega) j hj)
    · omega
  | succ m ih =>
    intro k f w3 hk hf
    refine mj_iload_n d_Mod_doubleMask_12 rfl ?_
    refine mj_bipush d_Mod_doubleMask_13 (nI 16) (by decide) ?_
    refine mj_icmpgeN d_Mod_doubleMask_15 66 rfl (by omega) (fun c_15 => ?_) (fun c_15 => ?_)
    · omega
    · refine mj_iload_n d_Mod_doubleMask_18 rfl ?_
      refine mj_bipush d_Mod_doubleMask_19 (nI 15) (by decide) ?_
      refine mj_icmpgeN d_Mod_doubleMask_21 38 rfl (by omega) (fun c_21 => ?_) (fun c_21 => ?_)
      · refine mj_iconst d_Mod_doubleMask_38 (nI 0) (by decide) ?_
        refine mj_istore_n d_Mod_doubleMask_39 (by decide) ?_
        dsimp only [mSt1, mSt2, mKill, Nat.reduceAdd]
        refine mj_aload_n d_Mod_doubleMask_40 rfl ?_
        refine mj_get d_Mod_doubleMask_41 fd_Mod_59 (gne h24 (by decide)) rfl ?_
        refine mj_iload_n d_Mod_doubleMask_44 rfl ?_
        refine mj_iconst d_Mod_doubleMask_45 (nI 2) (by decide) ?_
        refine mj_aload_n d_Mod_doubleMask_46 rfl ?_
        refine mj_get d_Mod_doubleMask_47 fd_Mod_59 (gne h24 (by decide)) rfl ?_
        refine mj_iload_n d_Mod_doubleMask_50 rfl ?_
        refine mj_ialdN d_Mod_doubleMask_51 (gself h40) (by omega) ?_
        rw [hf _ (by omega), pu_hi (by omega)]
        refine mj_imul d_Mod_doubleMask_52 ?_
        refine mj_iload_n d_Mod_doubleMask_53 rfl ?_
        refine mj_iadd d_Mod_doubleMask_54 ?_
        rw [pk_mul, nI_add]
        refine mj_sipush d_Mod_doubleMask_55 (nI 255) (by decide) ?_
        refine mj_iand d_Mod_doubleMask_58 ?_
        first
          | rw [nI_and255 (by have := hb k (by omega); have := hb (k + 1) (by omega); omega)]
          | rw [nI_and255 (by have := hb k (by omega); omega)]
        refine mj_iastN d_Mod_doubleMask_59 (gself h40) (by omega) ?_
        rw [List.set_set]
        refine mj_iinc d_Mod_doubleMask_60 rfl (by decide) (nI (k + 1)) (nI_1 k) ?_
        dsimp only [mSt1, mSt2, mKill, Nat.reduceAdd]
        refine mj_goto d_Mod_doubleMask_63 12 rfl ?_
        refine ih (k + 1) _ _ (by omega) (pu_v hf ?_)
        rw [dbl0_m hb (by omega)]
        first
          | rw [if_pos (by omega)]
          | rw [if_neg (by omega)]
      · refine mj_aload_n d_Mod_doubleMask_24 rfl ?_
        refine mj_get d_Mod_doubleMask_25 fd_Mod_59 (gne h24 (by decide)) rfl ?_
        refine mj_iload_n d_Mod_doubleMask_28 rfl ?_
        refine mj_iconst d_Mod_doubleMask_29 (nI 1) (by decide) ?_
        refine mj_iadd d_Mod_doubleMask_30 ?_
        rw [nI_add]
        refine mj_ialdN d_Mod_doubleMask_31 (gself h40) (by omega) ?_
        rw [hf _ (by omega), pu_hi (by omega)]
        refine mj_bipush d_Mod_doubleMask_32 (nI 7) (by decide) ?_
        refine mj_ishr d_Mod_doubleMask_34 ?_
        rw [nI_shr7 (by have := hb (k + 1) (by omega); omega)]
        refine mj_goto d_Mod_doubleMask_35 39 rfl ?_
        refine mj_istore_n d_Mod_doubleMask_39 (by decide) ?_
        dsimp only [mSt1, mSt2, mKill, Nat.reduceAdd]
        refine mj_aload_n d_Mod_doubleMask_40 rfl ?_
        refine mj_get d_Mod_doubleMask_41 fd_Mod_59 (gne h24 (by decide)) rfl ?_
        refine mj_iload_n d_Mod_doubleMask_44 rfl ?_
        refine mj_iconst d_Mod_doubleMask_45 (nI 2) (by decide) ?_
        refine mj_aload_n d_Mod_doubleMask_46 rfl ?_
        refine mj_get d_Mod_doubleMask_47 fd_Mod_59 (gne h24 (by decide)) rfl ?_
        refine mj_iload_n d_Mod_doubleMask_50 rfl ?_
        refine mj_ialdN d_Mod_doubleMask_51 (gself h40) (by omega) ?_
        rw [hf _ (by omega), pu_hi (by omega)]
        refine mj_imul d_Mod_doubleMask_52 ?_
        refine mj_iload_n d_Mod_doubleMask_53 rfl ?_
        refine mj_iadd d_Mod_doubleMask_54 ?_
        rw [pk_mul, nI_add]
        refine mj_sipush d_Mod_doubleMask_55 (nI 255) (by decide) ?_
        refine mj_iand d_Mod_doubleMask_58 ?_
        first
          | rw [nI_and255 (by have := hb k (by omega); have := hb (k + 1) (by omega); omega)]
          | rw [nI_and255 (by have := hb k (by omega); omega)]
        refine mj_iastN d_Mod_doubleMask_59 (gself h40) (by omega) ?_
        rw [List.set_set]
        refine mj_iinc d_Mod_doubleMask_60 rfl (by decide) (nI (k + 1)) (nI_1 k) ?_
        dsimp only [mSt1, mSt2, mKill, Nat.reduceAdd]
        refine mj_goto d_Mod_doubleMask_63 12 rfl ?_
        refine ih (k + 1) _ _ (by omega) (pu_v hf ?_)
        rw [dbl0_m hb (by omega)]
        first
          | rw [if_pos (by omega)]
          | rw [if_neg (by omega)]
theorem s_Mod_doubleMask {L : Nat} {xs : Nat → Int32} {Post : Option Value → mHeap → Prop} {h : mHeap} {fm : Nat → Int32} {g : Nat → Nat} {cu tr an sg am pv tn sz : Nat} (h24 : h[24]? = some (cMod cu tr an sg am pv tn sz)) (h40 : h[40]? = some (cArr 16 fm)) (hg : FA 16 g fm) (hb : Bt 16 g) (kP : ∀ f, FA 16 (dbl g) f → Post none (h.set 40 (cArr 16 f))) : mMet M_Mod_doubleMask L xs (0, 0) 0 0 [.ref 24] h Post := by
  refine mMet_of rfl (Nat.le_of_ble_eq_true rfl) ?_
  refine mj_aload_n d_Mod_doubleMask_0 rfl ?_
  refine mj_get d_Mod_doubleMask_1 fd_Mod_59 h24 rfl ?_
  refine mj_iconst d_Mod_doubleMask_4 (nI 0) (by decide) ?_
  refine mj_ialdN d_Mod_doubleMask_5 h40 (by omega) ?_
  rw [hg _ (by decide)]
  refine mj_bipush d_Mod_doubleMask_6 (nI 7) (by decide) ?_
  refine mj_ishr d_Mod_doubleMask_8 ?_
  rw [nI_shr7 (by have := hb 0 (by decide); omega)]
  refine mj_istore_n d_Mod_doubleMask_9 (by decide) ?_
  dsimp only [mSt1, mSt2, mKill, Nat.reduceAdd]
  refine mj_iconst d_Mod_doubleMask_10 (nI 0) (by decide) ?_
  refine mj_istore_n d_Mod_doubleMask_11 (by decide) ?_
  dsimp only [mSt1, mSt2, mKill, Nat.reduceAdd]
  have e := lp_dblM h24 h40 hg hb kP (L := L) (xs := xs) 16 0 fm none (by omega) (pu_0 hg)
  rw [set_same h40] at e
  exact e
