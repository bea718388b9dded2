/-- byte k of block b of a message with its filling -/
def vbF (M : List Nat) (b k : Nat) : Nat := if 16 * b + k < M.length then M.getD (16 * b + k) 0 else if 16 * b + k = M.length then 128 else 0
def cbcIn (M : List Nat) (mask : Nat → Nat) (nb : Nat) (X : Nat → Nat) (b : Nat) : Nat → Nat := fun k => if b + 1 = nb then (X k ^^^ vbF M b k) ^^^ mask k else X k ^^^ vbF M b k
def cbc (rk : Nat → Nat) (M : List Nat) (mask : Nat → Nat) (nb : Nat) : Nat → Nat → Nat
  | 0 => zero
  | b + 1 => enc rk (cbcIn M mask nb (cbc rk M mask nb b) b)
def whole (n : Nat) : Nat := if 0 < n ∧ n % 16 = 0 then 1 else 0
def nbk (n : Nat) : Nat := if 0 < n ∧ n % 16 = 0 then n / 16 else n / 16 + 1
/-- the mask of a message -/
def maskF (rk : Nat → Nat) (n : Nat) : Nat → Nat := if 0 < n ∧ n % 16 = 0 then dbl (enc rk zero) else dbl (dbl (enc rk zero))
/-- the seal of a message with round keys -/
def sealF (rk : Nat → Nat) (M : List Nat) : Nat → Nat := cbc rk M (maskF rk M.length) (nbk M.length) (nbk M.length)
theorem vbF_lt {M : List Nat} {b k : Nat} (h : ∀ x ∈ M, x < 256) : vbF M b k < 256 := by
  unfold vbF
  split
  · next hl =>
    rw [List.getD_eq_getElem?_getD, List.getElem?_eq_getElem hl]
    exact h _ (List.getElem_mem hl)
  · split <;> decide
theorem cbcIn_lt {M : List Nat} {mask X : Nat → Nat} {nb b : Nat} (h : ∀ x ∈ M, x < 256) (hm : Bt 16 mask) (hX : Bt 16 X) : Bt 16 (cbcIn M mask nb X b) := by
  intro k hk
  unfold cbcIn
  split
  · exact xor_lt (xor_lt (hX k hk) (vbF_lt h)) (hm k hk)
  · exact xor_lt (hX k hk) (vbF_lt h)
theorem cbc_lt {rk : Nat → Nat} {M : List Nat} {mask : Nat → Nat} {nb : Nat} (hk : Bt 176 rk) (h : ∀ x ∈ M, x < 256) (hm : Bt 16 mask) : ∀ b, Bt 16 (cbc rk M mask nb b)
  | 0 => zero_lt
  | b + 1 => enc_lt hk (cbcIn_lt h hm (cbc_lt hk h hm b))
theorem maskF_lt {rk : Nat → Nat} {n : Nat} (hk : Bt 176 rk) : Bt 16 (maskF rk n) := by
  unfold maskF
  split
  · exact dbl_lt (enc_lt hk zero_lt)
  · exact dbl_lt (dbl_lt (enc_lt hk zero_lt))
theorem sealF_lt {rk : Nat → Nat} {M : List Nat} (hk : Bt 176 rk) (h : ∀ x ∈ M, x < 256) : Bt 16 (sealF rk M) := cbc_lt hk h (maskF_lt hk) _
theorem pu_v {N i v : Nat} {a b : Nat → Nat} {f : Nat → Int32} (h : FA N (pu i a b) f) (hv : v = a i) : FA N (pu (i + 1) a b) (upd f i (nI v)) := by rw [hv]; exact pu_s h
theorem RA_sP {h : mHeap} {k k' cap : Nat} {l : List Nat} {f t g : Nat → Int32} (hr : RA h k k' cap l f) (h1 : 20 ≠ k) (h2 : 21 ≠ k) (h3 : 20 ≠ k') (h4 : 21 ≠ k') : RA (sP h t g) k k' cap l f := ⟨sP_get hr.1 h1 h2, sP_get hr.2.1 h3 h4, hr.2.2⟩
theorem li_run {L : Nat} {xs : Nat → Int32} {Post : Option Value → mHeap → Prop} {h : mHeap} {frk fw ff fx ft fM : Nat → Int32} {rk w fl : Nat → Nat} {k k' cap : Nat} {M : List Nat} (h16 : h[16]? = some cSea) (h17 : h[17]? = some (cArr 176 frk)) (h18 : h[18]? = some (cArr 16 fw)) (h19 : h[19]? = some (cArr 16 ff)) (h20 : h[20]? = some (cArr 16 fx)) (h21 : h[21]? = some (cArr 16 ft)) (hM : RA h k k' cap M fM) (n1 : 20 ≠ k) (n2 : 21 ≠ k) (n3 : 20 ≠ k') (n4 : 21 ≠ k') (hk : FA 176 rk frk) (hw : FA 16 w fw) (hfl : FA 16 fl ff) (hbk : Bt 176 rk) (hbw : Bt 16 w) (hbf : Bt 16 fl) (hbM : ∀ x ∈ M, x < 256) {mask : Nat → Nat} {wh nb : Nat} (hwm : wh ≠ 0 → mask = w) (hfm : wh = 0 → mask = fl) (hwh : wh < 2) {b : Nat} {X : Nat → Nat} (hbm : Bt 16 mask) (hbX : Bt 16 X) (hcap : M.length ≤ 40) (hb : b < nb ∧ nb < 10) {t : Nat → Int32} (ko : ∀ (t f : Nat → Int32) (w6 w7 w8 : Option Value), FA 16 (enc rk (cbcIn M mask nb X b)) f → mGo M_Sea_run L xs (3, 83) 0 0 Post 0 0 52 [some (.ref 16), some (.ref k), some (.int (nI M.length)), some (.int (nI wh)), some (.int (nI nb)), some (.int (nI (b + 1))), w6, w7, w8] [] (sP h t f)) : ∀ (m i : Nat) (f : Nat → Int32) (w7 w8 : Option Value), i + m = 16 → FA 16 (pu i (cbcIn M mask nb X b) X) f → mGo M_Sea_run L xs (3, 83) 0 0 Post 0 0 62 [some (.ref 16), some (.ref k), some (.int (nI M.length)), some (.int (nI wh)), some (.int (nI nb)), some (.int (nI b)), some (.int (nI i)), w7, w8] [] (sP h t f) := by
  intro m
  induction m with
  | zero =>
    intro i f w7 w8 hi hf
    refine mj_iload d_Sea_run_62 rfl ?_
    refine mj_bipush d_Sea_run_64 (nI 16) (by decide) ?_
    refine mj_icmpgeN d_Sea_run_66 167 rfl (by omega) (fun c_66 => ?_) (fun c_66 => ?_)
    · refine mj_aload_n d_Sea_run_167 rfl ?_
      refine mj_virtual (d' := (2, 62)) (mc := 0) (ms := 0) (As := []) d_Sea_run_168 cw_Sea_encipher q_90 q_92 qs_Sea_encipher (ci := 3) rfl (sP_get h16 (by decide) (by decide)) rfl rfl (mRoomB rfl) ?_
      refine s_Sea_encipher (sP_get h16 (by decide) (by decide)) (sP_get h17 (by decide) (by decide)) (sP_20 h20) (sP_21 h21) hk (pu_e hf (by omega)) hbk (cbcIn_lt hbM hbm hbX) (fun t1 f1 hf1 => ?_)
      rw [sP_sP]
      refine mj_iinc d_Sea_run_171 rfl (by decide) (nI (b + 1)) (nI_1 b) ?_
      dsimp only [mSt1, mSt2, mKill, Nat.reduceAdd]
      refine mj_goto d_Sea_run_174 52 rfl ?_
      exact ko t1 f1 _ _ _ hf1
    · omega
  | succ m ih =>
    intro i f w7 w8 hi hf
    refine mj_iload d_Sea_run_62 rfl ?_
    refine mj_bipush d_Sea_run_64 (nI 16) (by decide) ?_
    refine mj_icmpgeN d_Sea_run_66 167 rfl (by omega) (fun c_66 => ?_) (fun c_66 => ?_)
    · omega
    · refine mj_iload d_Sea_run_69 rfl ?_
      refine mj_bipush d_Sea_run_71 (nI 16) (by decide) ?_
      refine mj_imul d_Sea_run_73 ?_
      refine mj_iload d_Sea_run_74 rfl ?_
      refine mj_iadd d_Sea_run_76 ?_
      rw [pk_mul, nI_add, Nat.mul_comm b 16]
      refine mj_istore d_Sea_run_77 (by decide) ?_
      dsimp only [mSt1, mSt2, mKill, Nat.reduceAdd]
      refine mj_iload d_Sea_run_79 rfl ?_
      refine mj_iload_n d_Sea_run_81 rfl ?_
      refine mj_icmpneN d_Sea_run_82 91 rfl (by omega) (fun c_82 => ?_) (fun c_82 => ?_)
      · refine mj_iconst d_Sea_run_91 (nI 0) (by decide) ?_
        refine mj_istore d_Sea_run_92 (by decide) ?_
        dsimp only [mSt1, mSt2, mKill, Nat.reduceAdd]
        refine mj_aload_n d_Sea_run_94 rfl ?_
        refine mj_get d_Sea_run_95 fd_Sea_21 (sP_get h16 (by decide) (by decide)) rfl ?_
        refine mj_iload d_Sea_run_98 rfl ?_
        refine mj_dup2 d_Sea_run_100 rfl rfl ?_
        refine mj_ialdN d_Sea_run_101 (sP_20 h20) (by omega) ?_
        rw [hf _ (by omega), pu_hi (Nat.le_refl _)]
        refine mj_iload d_Sea_run_102 rfl ?_
        refine mj_iload_n d_Sea_run_104 rfl ?_
        refine mj_icmpgeN d_Sea_run_105 117 rfl (by omega) (fun c_105 => ?_) (fun c_105 => ?_)
        · refine mj_iload d_Sea_run_117 rfl ?_
          refine mj_ixor d_Sea_run_119 ?_
          rw [nI_xor]
          refine mj_iastN d_Sea_run_120 (sP_20 h20) (by omega) ?_
          rw [sP_s20]
          refine mj_iload d_Sea_run_121 rfl ?_
          refine mj_iload d_Sea_run_123 rfl ?_
          refine mj_iconst d_Sea_run_125 (nI 1) (by decide) ?_
          refine mj_isub d_Sea_run_126 ?_
          rw [pk_sub (by omega)]
          refine mj_icmpneN d_Sea_run_127 161 rfl (by omega) (fun c_127 => ?_) (fun c_127 => ?_)
          · refine mj_iinc d_Sea_run_161 rfl (by decide) (nI (i + 1)) (nI_1 i) ?_
            dsimp only [mSt1, mSt2, mKill, Nat.reduceAdd]
            refine mj_goto d_Sea_run_164 62 rfl ?_
            first
              | omega
              | (refine ih (i + 1) _ _ _ (by omega) (pu_v hf ?_)
                 unfold cbcIn vbF
                 (repeat' split) <;> first | omega | rfl)
          · refine mj_aload_n d_Sea_run_130 rfl ?_
            refine mj_get d_Sea_run_131 fd_Sea_21 (sP_get h16 (by decide) (by decide)) rfl ?_
            refine mj_iload d_Sea_run_134 rfl ?_
            refine mj_dup2 d_Sea_run_136 rfl rfl ?_
            refine mj_ialdN d_Sea_run_137 (sP_20 h20) (by omega) ?_
            rw [pk_us]
            refine mj_iload_n d_Sea_run_138 rfl ?_
            refine mj_ifeqN d_Sea_run_139 152 rfl (by omega) (fun c_139 => ?_) (fun c_139 => ?_)
            · refine mj_aload_n d_Sea_run_152 rfl ?_
              refine mj_get d_Sea_run_153 fd_Sea_18 (sP_get h16 (by decide) (by decide)) rfl ?_
              refine mj_iload d_Sea_run_156 rfl ?_
              refine mj_ialdN d_Sea_run_158 (sP_get h19 (by decide) (by decide)) (by omega) ?_
              rw [hfl _ (by omega), ← hfm c_139]
              refine mj_ixor d_Sea_run_159 ?_
              rw [nI_xor]
              refine mj_iastN d_Sea_run_160 (sP_20 h20) (by omega) ?_
              rw [sP_s20, upd_upd]
              refine mj_iinc d_Sea_run_161 rfl (by decide) (nI (i + 1)) (nI_1 i) ?_
              dsimp only [mSt1, mSt2, mKill, Nat.reduceAdd]
              refine mj_goto d_Sea_run_164 62 rfl ?_
              first
                | omega
                | (refine ih (i + 1) _ _ _ (by omega) (pu_v hf ?_)
                   unfold cbcIn vbF
                   (repeat' split) <;> first | omega | rfl)
            · refine mj_aload_n d_Sea_run_142 rfl ?_
              refine mj_get d_Sea_run_143 fd_Sea_15 (sP_get h16 (by decide) (by decide)) rfl ?_
              refine mj_iload d_Sea_run_146 rfl ?_
              refine mj_ialdN d_Sea_run_148 (sP_get h18 (by decide) (by decide)) (by omega) ?_
              rw [hw _ (by omega), ← hwm c_139]
              refine mj_goto d_Sea_run_149 159 rfl ?_
              refine mj_ixor d_Sea_run_159 ?_
              rw [nI_xor]
              refine mj_iastN d_Sea_run_160 (sP_20 h20) (by omega) ?_
              rw [sP_s20, upd_upd]
              refine mj_iinc d_Sea_run_161 rfl (by decide) (nI (i + 1)) (nI_1 i) ?_
              dsimp only [mSt1, mSt2, mKill, Nat.reduceAdd]
              refine mj_goto d_Sea_run_164 62 rfl ?_
              first
                | omega
                | (refine ih (i + 1) _ _ _ (by omega) (pu_v hf ?_)
                   unfold cbcIn vbF
                   (repeat' split) <;> first | omega | rfl)
        · refine mj_aload_n d_Sea_run_108 rfl ?_
          refine mj_iload d_Sea_run_109 rfl ?_
          refine mj_virtual (d' := (0, 0)) (mc := 0) (ms := 0) (As := [_]) d_Sea_run_111 cw_Row_at q_344 q_229 q_230 (ci := 0) rfl (sP_get hM.1 n1 n2) rfl rfl (mRoomB rfl) ?_
          refine s_Row_at (RA_sP hM n1 n2 n3 n4) ?_
          rw [atV_in (by omega) (by omega)]
          refine mj_goto d_Sea_run_114 119 rfl ?_
          refine mj_ixor d_Sea_run_119 ?_
          rw [nI_xor]
          refine mj_iastN d_Sea_run_120 (sP_20 h20) (by omega) ?_
          rw [sP_s20]
          refine mj_iload d_Sea_run_121 rfl ?_
          refine mj_iload d_Sea_run_123 rfl ?_
          refine mj_iconst d_Sea_run_125 (nI 1) (by decide) ?_
          refine mj_isub d_Sea_run_126 ?_
          rw [pk_sub (by omega)]
          refine mj_icmpneN d_Sea_run_127 161 rfl (by omega) (fun c_127 => ?_) (fun c_127 => ?_)
          · refine mj_iinc d_Sea_run_161 rfl (by decide) (nI (i + 1)) (nI_1 i) ?_
            dsimp only [mSt1, mSt2, mKill, Nat.reduceAdd]
            refine mj_goto d_Sea_run_164 62 rfl ?_
            first
              | omega
              | (refine ih (i + 1) _ _ _ (by omega) (pu_v hf ?_)
                 unfold cbcIn vbF
                 (repeat' split) <;> first | omega | rfl)
          · refine mj_aload_n d_Sea_run_130 rfl ?_
            refine mj_get d_Sea_run_131 fd_Sea_21 (sP_get h16 (by decide) (by decide)) rfl ?_
            refine mj_iload d_Sea_run_134 rfl ?_
            refine mj_dup2 d_Sea_run_136 rfl rfl ?_
            refine mj_ialdN d_Sea_run_137 (sP_20 h20) (by omega) ?_
            rw [pk_us]
            refine mj_iload_n d_Sea_run_138 rfl ?_
            refine mj_ifeqN d_Sea_run_139 152 rfl (by omega) (fun c_139 => ?_) (fun c_139 => ?_)
            · refine mj_aload_n d_Sea_run_152 rfl ?_
              refine mj_get d_Sea_run_153 fd_Sea_18 (sP_get h16 (by decide) (by decide)) rfl ?_
              refine mj_iload d_Sea_run_156 rfl ?_
              refine mj_ialdN d_Sea_run_158 (sP_get h19 (by decide) (by decide)) (by omega) ?_
              rw [hfl _ (by omega), ← hfm c_139]
              refine mj_ixor d_Sea_run_159 ?_
              rw [nI_xor]
              refine mj_iastN d_Sea_run_160 (sP_20 h20) (by omega) ?_
              rw [sP_s20, upd_upd]
              refine mj_iinc d_Sea_run_161 rfl (by decide) (nI (i + 1)) (nI_1 i) ?_
              dsimp only [mSt1, mSt2, mKill, Nat.reduceAdd]
              refine mj_goto d_Sea_run_164 62 rfl ?_
              first
                | omega
                | (refine ih (i + 1) _ _ _ (by omega) (pu_v hf ?_)
                   unfold cbcIn vbF
                   (repeat' split) <;> first | omega | rfl)
            · refine mj_aload_n d_Sea_run_142 rfl ?_
              refine mj_get d_Sea_run_143 fd_Sea_15 (sP_get h16 (by decide) (by decide)) rfl ?_
              refine mj_iload d_Sea_run_146 rfl ?_
              refine mj_ialdN d_Sea_run_148 (sP_get h18 (by decide) (by decide)) (by omega) ?_
              rw [hw _ (by omega), ← hwm c_139]
              refine mj_goto d_Sea_run_149 159 rfl ?_
              refine mj_ixor d_Sea_run_159 ?_
              rw [nI_xor]
              refine mj_iastN d_Sea_run_160 (sP_20 h20) (by omega) ?_
              rw [sP_s20, upd_upd]
              refine mj_iinc d_Sea_run_161 rfl (by decide) (nI (i + 1)) (nI_1 i) ?_
              dsimp only [mSt1, mSt2, mKill, Nat.reduceAdd]
              refine mj_goto d_Sea_run_164 62 rfl ?_
              first
                | omega
                | (refine ih (i + 1) _ _ _ (by omega) (pu_v hf ?_)
                   unfold cbcIn vbF
                   (repeat' split) <;> first | omega | rfl)
      · refine mj_sipush d_Sea_run_85 (nI 128) (by decide) ?_
        refine mj_goto d_Sea_run_88 92 rfl ?_
        refine mj_istore d_Sea_run_92 (by decide) ?_
        dsimp only [mSt1, mSt2, mKill, Nat.reduceAdd]
        refine mj_aload_n d_Sea_run_94 rfl ?_
        refine mj_get d_Sea_run_95 fd_Sea_21 (sP_get h16 (by decide) (by decide)) rfl ?_
        refine mj_iload d_Sea_run_98 rfl ?_
        refine mj_dup2 d_Sea_run_100 rfl rfl ?_
        refine mj_ialdN d_Sea_run_101 (sP_20 h20) (by omega) ?_
        rw [hf _ (by omega), pu_hi (Nat.le_refl _)]
        refine mj_iload d_Sea_run_102 rfl ?_
        refine mj_iload_n d_Sea_run_104 rfl ?_
        refine mj_icmpgeN d_Sea_run_105 117 rfl (by omega) (fun c_105 => ?_) (fun c_105 => ?_)
        · refine mj_iload d_Sea_run_117 rfl ?_
          refine mj_ixor d_Sea_run_119 ?_
          rw [nI_xor]
          refine mj_iastN d_Sea_run_120 (sP_20 h20) (by omega) ?_
          rw [sP_s20]
          refine mj_iload d_Sea_run_121 rfl ?_
          refine mj_iload d_Sea_run_123 rfl ?_
          refine mj_iconst d_Sea_run_125 (nI 1) (by decide) ?_
          refine mj_isub d_Sea_run_126 ?_
          rw [pk_sub (by omega)]
          refine mj_icmpneN d_Sea_run_127 161 rfl (by omega) (fun c_127 => ?_) (fun c_127 => ?_)
          · refine mj_iinc d_Sea_run_161 rfl (by decide) (nI (i + 1)) (nI_1 i) ?_
            dsimp only [mSt1, mSt2, mKill, Nat.reduceAdd]
            refine mj_goto d_Sea_run_164 62 rfl ?_
            first
              | omega
              | (refine ih (i + 1) _ _ _ (by omega) (pu_v hf ?_)
                 unfold cbcIn vbF
                 (repeat' split) <;> first | omega | rfl)
          · refine mj_aload_n d_Sea_run_130 rfl ?_
            refine mj_get d_Sea_run_131 fd_Sea_21 (sP_get h16 (by decide) (by decide)) rfl ?_
            refine mj_iload d_Sea_run_134 rfl ?_
            refine mj_dup2 d_Sea_run_136 rfl rfl ?_
            refine mj_ialdN d_Sea_run_137 (sP_20 h20) (by omega) ?_
            rw [pk_us]
            refine mj_iload_n d_Sea_run_138 rfl ?_
            refine mj_ifeqN d_Sea_run_139 152 rfl (by omega) (fun c_139 => ?_) (fun c_139 => ?_)
            · refine mj_aload_n d_Sea_run_152 rfl ?_
              refine mj_get d_Sea_run_153 fd_Sea_18 (sP_get h16 (by decide) (by decide)) rfl ?_
              refine mj_iload d_Sea_run_156 rfl ?_
              refine mj_ialdN d_Sea_run_158 (sP_get h19 (by decide) (by decide)) (by omega) ?_
              rw [hfl _ (by omega), ← hfm c_139]
              refine mj_ixor d_Sea_run_159 ?_
              rw [nI_xor]
              refine mj_iastN d_Sea_run_160 (sP_20 h20) (by omega) ?_
              rw [sP_s20, upd_upd]
              refine mj_iinc d_Sea_run_161 rfl (by decide) (nI (i + 1)) (nI_1 i) ?_
              dsimp only [mSt1, mSt2, mKill, Nat.reduceAdd]
              refine mj_goto d_Sea_run_164 62 rfl ?_
              first
                | omega
                | (refine ih (i + 1) _ _ _ (by omega) (pu_v hf ?_)
                   unfold cbcIn vbF
                   (repeat' split) <;> first | omega | rfl)
            · refine mj_aload_n d_Sea_run_142 rfl ?_
              refine mj_get d_Sea_run_143 fd_Sea_15 (sP_get h16 (by decide) (by decide)) rfl ?_
              refine mj_iload d_Sea_run_146 rfl ?_
              refine mj_ialdN d_Sea_run_148 (sP_get h18 (by decide) (by decide)) (by omega) ?_
              rw [hw _ (by omega), ← hwm c_139]
              refine mj_goto d_Sea_run_149 159 rfl ?_
              refine mj_ixor d_Sea_run_159 ?_
              rw [nI_xor]
              refine mj_iastN d_Sea_run_160 (sP_20 h20) (by omega) ?_
              rw [sP_s20, upd_upd]
              refine mj_iinc d_Sea_run_161 rfl (by decide) (nI (i + 1)) (nI_1 i) ?_
              dsimp only [mSt1, mSt2, mKill, Nat.reduceAdd]
              refine mj_goto d_Sea_run_164 62 rfl ?_
              first
                | omega
                | (refine ih (i + 1) _ _ _ (by omega) (pu_v hf ?_)
                   unfold cbcIn vbF
                   (repeat' split) <;> first | omega | rfl)
        · refine mj_aload_n d_Sea_run_108 rfl ?_
          refine mj_iload d_Sea_run_109 rfl ?_
          refine mj_virtual (d' := (0, 0)) (mc := 0) (ms := 0) (As := [_]) d_Sea_run_111 cw_Row_at q_344 q_229 q_230 (ci := 0) rfl (sP_get hM.1 n1 n2) rfl rfl (mRoomB rfl) ?_
          refine s_Row_at (RA_sP hM n1 n2 n3 n4) ?_
          rw [atV_in (by omega) (by omega)]
          refine mj_goto d_Sea_run_114 119 rfl ?_
          refine mj_ixor d_Sea_run_119 ?_
          rw [nI_xor]
          refine mj_iastN d_Sea_run_120 (sP_20 h20) (by omega) ?_
          rw [sP_s20]
          refine mj_iload d_Sea_run_121 rfl ?_
          refine mj_iload d_Sea_run_123 rfl ?_
          refine mj_iconst d_Sea_run_125 (nI 1) (by decide) ?_
          refine mj_isub d_Sea_run_126 ?_
          rw [pk_sub (by omega)]
          refine mj_icmpneN d_Sea_run_127 161 rfl (by omega) (fun c_127 => ?_) (fun c_127 => ?_)
          · refine mj_iinc d_Sea_run_161 rfl (by decide) (nI (i + 1)) (nI_1 i) ?_
            dsimp only [mSt1, mSt2, mKill, Nat.reduceAdd]
            refine mj_goto d_Sea_run_164 62 rfl ?_
            first
              | omega
              | (refine ih (i + 1) _ _ _ (by omega) (pu_v hf ?_)
                 unfold cbcIn vbF
                 (repeat' split) <;> first | omega | rfl)
          · refine mj_aload_n d_Sea_run_130 rfl ?_
            refine mj_get d_Sea_run_131 fd_Sea_21 (sP_get h16 (by decide) (by decide)) rfl ?_
            refine mj_iload d_Sea_run_134 rfl ?_
            refine mj_dup2 d_Sea_run_136 rfl rfl ?_
            refine mj_ialdN d_Sea_run_137 (sP_20 h20) (by omega) ?_
            rw [pk_us]
            refine mj_iload_n d_Sea_run_138 rfl ?_
            refine mj_ifeqN d_Sea_run_139 152 rfl (by omega) (fun c_139 => ?_) (fun c_139 => ?_)
            · refine mj_aload_n d_Sea_run_152 rfl ?_
              refine mj_get d_Sea_run_153 fd_Sea_18 (sP_get h16 (by decide) (by decide)) rfl ?_
              refine mj_iload d_Sea_run_156 rfl ?_
              refine mj_ialdN d_Sea_run_158 (sP_get h19 (by decide) (by decide)) (by omega) ?_
              rw [hfl _ (by omega), ← hfm c_139]
              refine mj_ixor d_Sea_run_159 ?_
              rw [nI_xor]
              refine mj_iastN d_Sea_run_160 (sP_20 h20) (by omega) ?_
              rw [sP_s20, upd_upd]
              refine mj_iinc d_Sea_run_161 rfl (by decide) (nI (i + 1)) (nI_1 i) ?_
              dsimp only [mSt1, mSt2, mKill, Nat.reduceAdd]
              refine mj_goto d_Sea_run_164 62 rfl ?_
              first
                | omega
                | (refine ih (i + 1) _ _ _ (by omega) (pu_v hf ?_)
                   unfold cbcIn vbF
                   (repeat' split) <;> first | omega | rfl)
            · refine mj_aload_n d_Sea_run_142 rfl ?_
              refine mj_get d_Sea_run_143 fd_Sea_15 (sP_get h16 (by decide) (by decide)) rfl ?_
              refine mj_iload d_Sea_run_146 rfl ?_
              refine mj_ialdN d_Sea_run_148 (sP_get h18 (by decide) (by decide)) (by omega) ?_
              rw [hw _ (by omega), ← hwm c_139]
              refine mj_goto d_Sea_run_149 159 rfl ?_
              refine mj_ixor d_Sea_run_159 ?_
              rw [nI_xor]
              refine mj_iastN d_Sea_run_160 (sP_20 h20) (by omega) ?_
              rw [sP_s20, upd_upd]
              refine mj_iinc d_Sea_run_161 rfl (by decide) (nI (i + 1)) (nI_1 i) ?_
              dsimp only [mSt1, mSt2, mKill, Nat.reduceAdd]
              refine mj_goto d_Sea_run_164 62 rfl ?_
              first
                | omega
                | (refine ih (i + 1) _ _ _ (by omega) (pu_v hf ?_)
                   unfold cbcIn vbF
                   (repeat' split) <;> first | omega | rfl)
theorem lo_run {L : Nat} {xs : Nat → Int32} {Post : Option Value → mHeap → Prop} {h : mHeap} {frk fw ff fx ft fM : Nat → Int32} {rk w fl : Nat → Nat} {k k' cap : Nat} {M : List Nat} (h16 : h[16]? = some cSea) (h17 : h[17]? = some (cArr 176 frk)) (h18 : h[18]? = some (cArr 16 fw)) (h19 : h[19]? = some (cArr 16 ff)) (h20 : h[20]? = some (cArr 16 fx)) (h21 : h[21]? = some (cArr 16 ft)) (hM : RA h k k' cap M fM) (n1 : 20 ≠ k) (n2 : 21 ≠ k) (n3 : 20 ≠ k') (n4 : 21 ≠ k') (hk : FA 176 rk frk) (hw : FA 16 w fw) (hfl : FA 16 fl ff) (hbk : Bt 176 rk) (hbw : Bt 16 w) (hbf : Bt 16 fl) (hbM : ∀ x ∈ M, x < 256) {mask : Nat → Nat} {wh nb : Nat} (hwm : wh ≠ 0 → mask = w) (hfm : wh = 0 → mask = fl) (hwh : wh < 2) (hbm : Bt 16 mask) (hcap : M.length ≤ 40) (hnb : nb < 10) (kP : ∀ t f, FA 16 (cbc rk M mask nb nb) f → Post none (sP h t f)) : ∀ (m b : Nat) (t f : Nat → Int32) (w6 w7 w8 : Option Value), b + m = nb → FA 16 (cbc rk M mask nb b) f → mGo M_Sea_run L xs (3, 83) 0 0 Post 0 0 52 [some (.ref 16), some (.ref k), some (.int (nI M.length)), some (.int (nI wh)), some (.int (nI nb)), some (.int (nI b)), w6, w7, w8] [] (sP h t f) := by
  intro m
  induction m with
  | zero =>
    intro b t f w6 w7 w8 hb hf
    refine mj_iload d_Sea_run_52 rfl ?_
    refine mj_iload d_Sea_run_54 rfl ?_
    refine mj_icmpgeN d_Sea_run_56 177 rfl (by omega) (fun c_56 => ?_) (fun c_56 => ?_)
    · refine mj_vret d_Sea_run_177 rfl (Nat.le_refl _) (Nat.le_refl _) ?_
      rw [show b = nb by omega] at hf
      exact kP t f hf
    · omega
  | succ m ih =>
    intro b t f w6 w7 w8 hb hf
    refine mj_iload d_Sea_run_52 rfl ?_
    refine mj_iload d_Sea_run_54 rfl ?_
    refine mj_icmpgeN d_Sea_run_56 177 rfl (by omega) (fun c_56 => ?_) (fun c_56 => ?_)
    · omega
    · refine mj_iconst d_Sea_run_59 (nI 0) (by decide) ?_
      refine mj_istore d_Sea_run_60 (by decide) ?_
      dsimp only [mSt1, mSt2, mKill, Nat.reduceAdd]
      exact li_run h16 h17 h18 h19 h20 h21 hM n1 n2 n3 n4 hk hw hfl hbk hbw hbf hbM hwm hfm hwh hbm (cbc_lt hbk hbM hbm b) hcap (by omega) (fun t f w6 w7 w8 hf => ih (b + 1) t f w6 w7 w8 (by omega) hf) 16 0 f _ _ (by omega) (pu_0 hf)
theorem s_Sea_run {L : Nat} {xs : Nat → Int32} {Post : Option Value → mHeap → Prop} {h : mHeap} {frk fw ff fx ft fM : Nat → Int32} {rk : Nat → Nat} {k k' cap : Nat} {M : List Nat} (h16 : h[16]? = some cSea) (h17 : h[17]? = some (cArr 176 frk)) (h18 : h[18]? = some (cArr 16 fw)) (h19 : h[19]? = some (cArr 16 ff)) (h20 : h[20]? = some (cArr 16 fx)) (h21 : h[21]? = some (cArr 16 ft)) (hM : RA h k k' cap M fM) (n1 : 20 ≠ k) (n2 : 21 ≠ k) (n3 : 20 ≠ k') (n4 : 21 ≠ k') (hk : FA 176 rk frk) (hw : FA 16 (dbl (enc rk zero)) fw) (hfl : FA 16 (dbl (dbl (enc rk zero))) ff) (hbk : Bt 176 rk) (hbM : ∀ x ∈ M, x < 256) (hcap : M.length ≤ 40) (kP : ∀ t f, FA 16 (sealF rk M) f → Post none (sP h t f)) : mMet M_Sea_run L xs (3, 83) 0 0 [.ref 16, .ref k] h Post := by
  refine mMet_of rfl (Nat.le_of_ble_eq_true rfl) ?_
  have hbw : Bt 16 (dbl (enc rk zero)) := dbl_lt (enc_lt hbk zero_lt)
  have hbf : Bt 16 (dbl (dbl (enc rk zero))) := dbl_lt hbw
  refine mj_aload_n d_Sea_run_0 rfl ?_
  refine mj_virtual (d' := (0, 0)) (mc := 0) (ms := 0) (As := []) d_Sea_run_1 cw_Row_size q_343 q_204 q_205 (ci := 0) rfl hM.1 rfl rfl (mRoomB rfl) ?_
  refine s_Row_size hM ?_
  refine mj_istore_n d_Sea_run_4 (by decide) ?_
  dsimp only [mSt1, mSt2, mKill, Nat.reduceAdd]
  refine mj_iload_n d_Sea_run_5 rfl ?_
  refine mj_ifleN d_Sea_run_6 20 rfl (by omega) (fun c_6 => ?_) (fun c_6 => ?_)
  · refine mj_iconst d_Sea_run_20 (nI 0) (by decide) ?_
    refine mj_istore_n d_Sea_run_21 (by decide) ?_
    dsimp only [mSt1, mSt2, mKill, Nat.reduceAdd]
    refine mj_iload_n d_Sea_run_22 rfl ?_
    refine mj_ifeqN d_Sea_run_23 33 rfl (by omega) (fun c_23 => ?_) (fun c_23 => ?_)
    · refine mj_iload_n d_Sea_run_33 rfl ?_
      refine mj_bipush d_Sea_run_34 (nI 16) (by decide) ?_
      refine mj_idiv d_Sea_run_36 (by decide) ?_
      rw [pk_div (by omega) (by decide) (by decide)]
      refine mj_iconst d_Sea_run_37 (nI 1) (by decide) ?_
      refine mj_iadd d_Sea_run_38 ?_
      rw [nI_add]
      refine mj_istore d_Sea_run_39 (by decide) ?_
      dsimp only [mSt1, mSt2, mKill, Nat.reduceAdd]
      refine mj_aload_n d_Sea_run_41 rfl ?_
      refine mj_get d_Sea_run_42 fd_Sea_21 h16 rfl ?_
      refine mj_iconst d_Sea_run_45 (nI 0) (by decide) ?_
      refine mj_static (d' := (0, 0)) (mc := 0) (ms := 0) (As := [_, _]) d_Sea_run_46 cw_Arr_fill q_87 q_88 rfl rfl (mRoomB rfl) ?_
      refine s_Arr_fill h20 (by decide) (fun f0 hf0 => ?_)
      rw [sP_0 h21]
      refine mj_iconst d_Sea_run_49 (nI 0) (by decide) ?_
      refine mj_istore d_Sea_run_50 (by decide) ?_
      dsimp only [mSt1, mSt2, mKill, Nat.reduceAdd]
      first
        | omega
        | (have e1 : whole M.length = 1 := by unfold whole; rw [if_pos (by omega)]
           have e2 : nbk M.length = M.length / 16 := by unfold nbk; rw [if_pos (by omega)]
           have e3 : maskF rk M.length = dbl (enc rk zero) := by unfold maskF; rw [if_pos (by omega)]
           rw [sealF, e2, e3] at kP
           exact lo_run h16 h17 h18 h19 h20 h21 hM n1 n2 n3 n4 hk hw hfl hbk hbw hbf hbM (wh := 1) (fun _ => rfl) (fun z => absurd z (by decide)) (by decide) (by rw [← e3]; exact maskF_lt hbk) hcap (by omega) kP (M.length / 16) 0 ft f0 _ _ _ (by omega) (fun j hj => hf0 j hj))
        | (have e2 : nbk M.length = M.length / 16 + 1 := by unfold nbk; rw [if_neg (by omega)]
           have e3 : maskF rk M.length = dbl (dbl (enc rk zero)) := by unfold maskF; rw [if_neg (by omega)]
           rw [sealF, e2, e3] at kP
           exact lo_run h16 h17 h18 h19 h20 h21 hM n1 n2 n3 n4 hk hw hfl hbk hbw hbf hbM (wh := 0) (fun z => absurd rfl z) (fun _ => rfl) (by decide) (by rw [← e3]; exact maskF_lt hbk) hcap (by omega) kP (M.length / 16 + 1) 0 ft f0 _ _ _ (by omega) (fun j hj => hf0 j hj))
    · refine mj_iload_n d_Sea_run_26 rfl ?_
      refine mj_bipush d_Sea_run_27 (nI 16) (by decide) ?_
      refine mj_idiv d_Sea_run_29 (by decide) ?_
      rw [pk_div (by omega) (by decide) (by decide)]
      refine mj_goto d_Sea_run_30 39 rfl ?_
      refine mj_istore d_Sea_run_39 (by decide) ?_
      dsimp only [mSt1, mSt2, mKill, Nat.reduceAdd]
      refine mj_aload_n d_Sea_run_41 rfl ?_
      refine mj_get d_Sea_run_42 fd_Sea_21 h16 rfl ?_
      refine mj_iconst d_Sea_run_45 (nI 0) (by decide) ?_
      refine mj_static (d' := (0, 0)) (mc := 0) (ms := 0) (As := [_, _]) d_Sea_run_46 cw_Arr_fill q_87 q_88 rfl rfl (mRoomB rfl) ?_
      refine s_Arr_fill h20 (by decide) (fun f0 hf0 => ?_)
      rw [sP_0 h21]
      refine mj_iconst d_Sea_run_49 (nI 0) (by decide) ?_
      refine mj_istore d_Sea_run_50 (by decide) ?_
      dsimp only [mSt1, mSt2, mKill, Nat.reduceAdd]
      first
        | omega
        | (have e1 : whole M.length = 1 := by unfold whole; rw [if_pos (by omega)]
           have e2 : nbk M.length = M.length / 16 := by unfold nbk; rw [if_pos (by omega)]
           have e3 : maskF rk M.length = dbl (enc rk zero) := by unfold maskF; rw [if_pos (by omega)]
           rw [sealF, e2, e3] at kP
           exact lo_run h16 h17 h18 h19 h20 h21 hM n1 n2 n3 n4 hk hw hfl hbk hbw hbf hbM (wh := 1) (fun _ => rfl) (fun z => absurd z (by decide)) (by decide) (by rw [← e3]; exact maskF_lt hbk) hcap (by omega) kP (M.length / 16) 0 ft f0 _ _ _ (by omega) (fun j hj => hf0 j hj))
        | (have e2 : nbk M.length = M.length / 16 + 1 := by unfold nbk; rw [if_neg (by omega)]
           have e3 : maskF rk M.length = dbl (dbl (enc rk zero)) := by unfold maskF; rw [if_neg (by omega)]
           rw [sealF, e2, e3] at kP
           exact lo_run h16 h17 h18 h19 h20 h21 hM n1 n2 n3 n4 hk hw hfl hbk hbw hbf hbM (wh := 0) (fun z => absurd rfl z) (fun _ => rfl) (by decide) (by rw [← e3]; exact maskF_lt hbk) hcap (by omega) kP (M.length / 16 + 1) 0 ft f0 _ _ _ (by omega) (fun j hj => hf0 j hj))
  · refine mj_iload_n d_Sea_run_9 rfl ?_
    refine mj_bipush d_Sea_run_10 (nI 16) (by decide) ?_
    refine mj_irem d_Sea_run_12 (by decide) ?_
    rw [pk_rem (by omega) (by decide) (by decide)]
    refine mj_ifneN d_Sea_run_13 20 rfl (by omega) (fun c_13 => ?_) (fun c_13 => ?_)
    · refine mj_iconst d_Sea_run_20 (nI 0) (by decide) ?_
      refine mj_istore_n d_Sea_run_21 (by decide) ?_
      dsimp only [mSt1, mSt2, mKill, Nat.reduceAdd]
      refine mj_iload_n d_Sea_run_22 rfl ?_
      refine mj_ifeqN d_Sea_run_23 33 rfl (by omega) (fun c_23 => ?_) (fun c_23 => ?_)
      · refine mj_iload_n d_Sea_run_33 rfl ?_
        refine mj_bipush d_Sea_run_34 (nI 16) (by decide) ?_
        refine mj_idiv d_Sea_run_36 (by decide) ?_
        rw [pk_div (by omega) (by decide) (by decide)]
        refine mj_iconst d_Sea_run_37 (nI 1) (by decide) ?_
        refine mj_iadd d_Sea_run_38 ?_
        rw [nI_add]
        refine mj_istore d_Sea_run_39 (by decide) ?_
        dsimp only [mSt1, mSt2, mKill, Nat.reduceAdd]
        refine mj_aload_n d_Sea_run_41 rfl ?_
        refine mj_get d_Sea_run_42 fd_Sea_21 h16 rfl ?_
        refine mj_iconst d_Sea_run_45 (nI 0) (by decide) ?_
        refine mj_static (d' := (0, 0)) (mc := 0) (ms := 0) (As := [_, _]) d_Sea_run_46 cw_Arr_fill q_87 q_88 rfl rfl (mRoomB rfl) ?_
        refine s_Arr_fill h20 (by decide) (fun f0 hf0 => ?_)
        rw [sP_0 h21]
        refine mj_iconst d_Sea_run_49 (nI 0) (by decide) ?_
        refine mj_istore d_Sea_run_50 (by decide) ?_
        dsimp only [mSt1, mSt2, mKill, Nat.reduceAdd]
        first
          | omega
          | (have e1 : whole M.length = 1 := by unfold whole; rw [if_pos (by omega)]
             have e2 : nbk M.length = M.length / 16 := by unfold nbk; rw [if_pos (by omega)]
             have e3 : maskF rk M.length = dbl (enc rk zero) := by unfold maskF; rw [if_pos (by omega)]
             rw [sealF, e2, e3] at kP
             exact lo_run h16 h17 h18 h19 h20 h21 hM n1 n2 n3 n4 hk hw hfl hbk hbw hbf hbM (wh := 1) (fun _ => rfl) (fun z => absurd z (by decide)) (by decide) (by rw [← e3]; exact maskF_lt hbk) hcap (by omega) kP (M.length / 16) 0 ft f0 _ _ _ (by omega) (fun j hj => hf0 j hj))
          | (have e2 : nbk M.length = M.length / 16 + 1 := by unfold nbk; rw [if_neg (by omega)]
             have e3 : maskF rk M.length = dbl (dbl (enc rk zero)) := by unfold maskF; rw [if_neg (by omega)]
             rw [sealF, e2, e3] at kP
             exact lo_run h16 h17 h18 h19 h20 h21 hM n1 n2 n3 n4 hk hw hfl hbk hbw hbf hbM (wh := 0) (fun z => absurd rfl z) (fun _ => rfl) (by decide) (by rw [← e3]; exact maskF_lt hbk) hcap (by omega) kP (M.length / 16 + 1) 0 ft f0 _ _ _ (by omega) (fun j hj => hf0 j hj))
      · refine mj_iload_n d_Sea_run_26 rfl ?_
        refine mj_bipush d_Sea_run_27 (nI 16) (by decide) ?_
        refine mj_idiv d_Sea_run_29 (by decide) ?_
        rw [pk_div (by omega) (by decide) (by decide)]
        refine mj_goto d_Sea_run_30 39 rfl ?_
        refine mj_istore d_Sea_run_39 (by decide) ?_
        dsimp only [mSt1, mSt2, mKill, Nat.reduceAdd]
        refine mj_aload_n d_Sea_run_41 rfl ?_
        refine mj_get d_Sea_run_42 fd_Sea_21 h16 rfl ?_
        refine mj_iconst d_Sea_run_45 (nI 0) (by decide) ?_
        refine mj_static (d' := (0, 0)) (mc := 0) (ms := 0) (As := [_, _]) d_Sea_run_46 cw_Arr_fill q_87 q_88 rfl rfl (mRoomB rfl) ?_
        refine s_Arr_fill h20 (by decide) (fun f0 hf0 => ?_)
        rw [sP_0 h21]
        refine mj_iconst d_Sea_run_49 (nI 0) (by decide) ?_
        refine mj_istore d_Sea_run_50 (by decide) ?_
        dsimp only [mSt1, mSt2, mKill, Nat.reduceAdd]
        first
          | omega
          | (have e1 : whole M.length = 1 := by unfold whole; rw [if_pos (by omega)]
             have e2 : nbk M.length = M.length / 16 := by unfold nbk; rw [if_pos (by omega)]
             have e3 : maskF rk M.length = dbl (enc rk zero) := by unfold maskF; rw [if_pos (by omega)]
             rw [sealF, e2, e3] at kP
             exact lo_run h16 h17 h18 h19 h20 h21 hM n1 n2 n3 n4 hk hw hfl hbk hbw hbf hbM (wh := 1) (fun _ => rfl) (fun z => absurd z (by decide)) (by decide) (by rw [← e3]; exact maskF_lt hbk) hcap (by omega) kP (M.length / 16) 0 ft f0 _ _ _ (by omega) (fun j hj => hf0 j hj))
          | (have e2 : nbk M.length = M.length / 16 + 1 := by unfold nbk; rw [if_neg (by omega)]
             have e3 : maskF rk M.length = dbl (dbl (enc rk zero)) := by unfold maskF; rw [if_neg (by omega)]
             rw [sealF, e2, e3] at kP
             exact lo_run h16 h17 h18 h19 h20 h21 hM n1 n2 n3 n4 hk hw hfl hbk hbw hbf hbM (wh := 0) (fun z => absurd rfl z) (fun _ => rfl) (by decide) (by rw [← e3]; exact maskF_lt hbk) hcap (by omega) kP (M.length / 16 + 1) 0 ft f0 _ _ _ (by omega) (fun j hj => hf0 j hj))
    · refine mj_iconst d_Sea_run_16 (nI 1) (by decide) ?_
      refine mj_goto d_Sea_run_17 21 rfl ?_
      refine mj_istore_n d_Sea_run_21 (by decide) ?_
      dsimp only [mSt1, mSt2, mKill, Nat.reduceAdd]
      refine mj_iload_n d_Sea_run_22 rfl ?_
      refine mj_ifeqN d_Sea_run_23 33 rfl (by omega) (fun c_23 => ?_) (fun c_23 => ?_)
      · refine mj_iload_n d_Sea_run_33 rfl ?_
        refine mj_bipush d_Sea_run_34 (nI 16) (by decide) ?_
        refine mj_idiv d_Sea_run_36 (by decide) ?_
        rw [pk_div (by omega) (by decide) (by decide)]
        refine mj_iconst d_Sea_run_37 (nI 1) (by decide) ?_
        refine mj_iadd d_Sea_run_38 ?_
        rw [nI_add]
        refine mj_istore d_Sea_run_39 (by decide) ?_
        dsimp only [mSt1, mSt2, mKill, Nat.reduceAdd]
        refine mj_aload_n d_Sea_run_41 rfl ?_
        refine mj_get d_Sea_run_42 fd_Sea_21 h16 rfl ?_
        refine mj_iconst d_Sea_run_45 (nI 0) (by decide) ?_
        refine mj_static (d' := (0, 0)) (mc := 0) (ms := 0) (As := [_, _]) d_Sea_run_46 cw_Arr_fill q_87 q_88 rfl rfl (mRoomB rfl) ?_
        refine s_Arr_fill h20 (by decide) (fun f0 hf0 => ?_)
        rw [sP_0 h21]
        refine mj_iconst d_Sea_run_49 (nI 0) (by decide) ?_
        refine mj_istore d_Sea_run_50 (by decide) ?_
        dsimp only [mSt1, mSt2, mKill, Nat.reduceAdd]
        first
          | omega
          | (have e1 : whole M.length = 1 := by unfold whole; rw [if_pos (by omega)]
             have e2 : nbk M.length = M.length / 16 := by unfold nbk; rw [if_pos (by omega)]
             have e3 : maskF rk M.length = dbl (enc rk zero) := by unfold maskF; rw [if_pos (by omega)]
             rw [sealF, e2, e3] at kP
             exact lo_run h16 h17 h18 h19 h20 h21 hM n1 n2 n3 n4 hk hw hfl hbk hbw hbf hbM (wh := 1) (fun _ => rfl) (fun z => absurd z (by decide)) (by decide) (by rw [← e3]; exact maskF_lt hbk) hcap (by omega) kP (M.length / 16) 0 ft f0 _ _ _ (by omega) (fun j hj => hf0 j hj))
          | (have e2 : nbk M.length = M.length / 16 + 1 := by unfold nbk; rw [if_neg (by omega)]
             have e3 : maskF rk M.length = dbl (dbl (enc rk zero)) := by unfold maskF; rw [if_neg (by omega)]
             rw [sealF, e2, e3] at kP
             exact lo_run h16 h17 h18 h19 h20 h21 hM n1 n2 n3 n4 hk hw hfl hbk hbw hbf hbM (wh := 0) (fun z => absurd rfl z) (fun _ => rfl) (by decide) (by rw [← e3]; exact maskF_lt hbk) hcap (by omega) kP (M.length / 16 + 1) 0 ft f0 _ _ _ (by omega) (fun j hj => hf0 j hj))
      · refine mj_iload_n d_Sea_run_26 rfl ?_
        refine mj_bipush d_Sea_run_27 (nI 16) (by decide) ?_
        refine mj_idiv d_Sea_run_29 (by decide) ?_
        rw [pk_div (by omega) (by decide) (by decide)]
        refine mj_goto d_Sea_run_30 39 rfl ?_
        refine mj_istore d_Sea_run_39 (by decide) ?_
        dsimp only [mSt1, mSt2, mKill, Nat.reduceAdd]
        refine mj_aload_n d_Sea_run_41 rfl ?_
        refine mj_get d_Sea_run_42 fd_Sea_21 h16 rfl ?_
        refine mj_iconst d_Sea_run_45 (nI 0) (by decide) ?_
        refine mj_static (d' := (0, 0)) (mc := 0) (ms := 0) (As := [_, _]) d_Sea_run_46 cw_Arr_fill q_87 q_88 rfl rfl (mRoomB rfl) ?_
        refine s_Arr_fill h20 (by decide) (fun f0 hf0 => ?_)
        rw [sP_0 h21]
        refine mj_iconst d_Sea_run_49 (nI 0) (by decide) ?_
        refine mj_istore d_Sea_run_50 (by decide) ?_
        dsimp only [mSt1, mSt2, mKill, Nat.reduceAdd]
        first
          | omega
          | (have e1 : whole M.length = 1 := by unfold whole; rw [if_pos (by omega)]
             have e2 : nbk M.length = M.length / 16 := by unfold nbk; rw [if_pos (by omega)]
             have e3 : maskF rk M.length = dbl (enc rk zero) := by unfold maskF; rw [if_pos (by omega)]
             rw [sealF, e2, e3] at kP
             exact lo_run h16 h17 h18 h19 h20 h21 hM n1 n2 n3 n4 hk hw hfl hbk hbw hbf hbM (wh := 1) (fun _ => rfl) (fun z => absurd z (by decide)) (by decide) (by rw [← e3]; exact maskF_lt hbk) hcap (by omega) kP (M.length / 16) 0 ft f0 _ _ _ (by omega) (fun j hj => hf0 j hj))
          | (have e2 : nbk M.length = M.length / 16 + 1 := by unfold nbk; rw [if_neg (by omega)]
             have e3 : maskF rk M.length = dbl (dbl (enc rk zero)) := by unfold maskF; rw [if_neg (by omega)]
             rw [sealF, e2, e3] at kP
             exact lo_run h16 h17 h18 h19 h20 h21 hM n1 n2 n3 n4 hk hw hfl hbk hbw hbf hbM (wh := 0) (fun z => absurd rfl z) (fun _ => rfl) (by decide) (by rw [← e3]; exact maskF_lt hbk) hcap (by omega) kP (M.length / 16 + 1) 0 ft f0 _ _ _ (by omega) (fun j hj => hf0 j hj))
