def kbF (a b : Int64) : Nat → Nat := fun k => if k < 8 then byteN a (7 - k) else byteN b (15 - k)
theorem kbF_lt (a b : Int64) : Bt 16 (kbF a b) := fun j _ => by unfold kbF; split <;> exact byteN_lt _ _
theorem l_b1' (n s : Int64) (i : Nat) (hs : (s.toBitVec.smod 64).toNat = 8 * i) (hi : i < 8) : (n >>> s).toInt32 &&& nI 255 = nI (byteN n i) := l_b1 n s i hs hi
theorem sh56 : ∀ i : Nat, i < 8 → (((nI 56 - nI 8 * nI i).toInt64 &&& 63).toBitVec.smod 64).toNat = 8 * (7 - i) := by decide +kernel
def zero : Nat → Nat := fun _ => 0
theorem zero_lt {N : Nat} : Bt N zero := fun _ _ => show 0 < 256 by decide
theorem upd_upd {f : Nat → Int32} {i : Nat} {a b : Int32} : upd (upd f i a) i b = upd f i b := by
  funext j
  by_cases e : j = i
  · subst e; rw [pk_us, pk_us]
  · rw [pk_un e, pk_un e, pk_un e]
/-- the two halves of a key, i bytes of each -/
def KH (i : Nat) (g : Nat → Nat) (f : Nat → Int32) : Prop := ∀ j, j < i → f j = nI (g j) ∧ f (8 + j) = nI (g (8 + j))
theorem KH_s {i : Nat} {g : Nat → Nat} {f : Nat → Int32} (hi : i < 8) (h : KH i g f) : KH (i + 1) g (upd (upd f i (nI (g i))) (8 + i) (nI (g (8 + i)))) := by
  intro j hj
  by_cases e : j = i
  · subst e
    exact ⟨by rw [pk_un (by omega), pk_us], pk_us⟩
  · exact ⟨by rw [pk_un (by omega), pk_un (by omega)]; exact (h j (by omega)).1, by rw [pk_un (by omega), pk_un (by omega)]; exact (h j (by omega)).2⟩
theorem KH_e {g : Nat → Nat} {f : Nat → Int32} (h : KH 8 g f) : FA 16 g f := by
  intro j hj
  by_cases e : j < 8
  · exact (h j e).1
  · have := (h (j - 8) (by omega)).2
    rw [show 8 + (j - 8) = j by omega] at this
    exact this
theorem lp_takeKey {L : Nat} {xs : Nat → Int32} {Post : Option Value → mHeap → Prop} {h : mHeap} {f17 f18 f19 f20 f21 : Nat → Int32} {a b : Int64} (h16 : h[16]? = some cSea) (h17 : h[17]? = some (cArr 176 f17)) (h18 : h[18]? = some (cArr 16 f18)) (h19 : h[19]? = some (cArr 16 f19)) (h20 : h[20]? = some (cArr 16 f20)) (h21 : h[21]? = some (cArr 16 f21)) (kP : ∀ frk f0 t f fw ff, FA 176 (rkF (kbF a b)) frk → FA 16 (dbl (enc (rkF (kbF a b)) zero)) fw → FA 16 (dbl (dbl (enc (rkF (kbF a b)) zero))) ff → Post none (((sP ((h.set 17 (cArr 176 frk)).set 20 (cArr 16 f0)) t f).set 18 (cArr 16 fw)).set 19 (cArr 16 ff))) : ∀ (m i : Nat) (f : Nat → Int32), i + m = 8 → KH i (kbF a b) f → mGo M_Sea_takeKey L xs (3, 83) 0 0 Post 0 0 3 [some (.ref 16), some (.long a), none, some (.long b), none, some (.int (nI i))] [] (h.set 17 (cArr 176 f)) := by
  intro m
  induction m with
  | zero =>
    intro i f hi hf
    refine mj_iload d_Sea_takeKey_3 rfl ?_
    refine mj_bipush d_Sea_takeKey_5 (nI 8) (by decide) ?_
    refine mj_icmpgeN d_Sea_takeKey_7 63 rfl (by omega) (fun c_7 => ?_) (fun c_7 => ?_)
    · refine mj_aload_n d_Sea_takeKey_63 rfl ?_
      refine mj_virtual (d' := (1, 20)) (mc := 0) (ms := 0) (As := []) d_Sea_takeKey_64 cw_Sea_growRoundKeys q_78 q_80 qs_Sea_growRoundKeys (ci := 3) rfl (gne h16 (by decide)) rfl rfl (mRoomB rfl) ?_
      obtain rfl : i = 8 := by omega
      refine s_Sea_growRoundKeys (gne h16 (by decide)) (gself h17) (kbF_lt a b) (KH_e hf) (fun frk hrk => ?_)
      rw [List.set_set]
      have h16 := gne (y := cArr 176 frk) (j := 17) h16 (by decide)
      have h18 := gne (y := cArr 176 frk) (j := 17) h18 (by decide)
      have h19 := gne (y := cArr 176 frk) (j := 17) h19 (by decide)
      have h20 := gne (y := cArr 176 frk) (j := 17) h20 (by decide)
      have h21 := gne (y := cArr 176 frk) (j := 17) h21 (by decide)
      have h17 := gself (y := cArr 176 frk) h17
      generalize eh : h.set 17 (cArr 176 frk) = h1 at *
      refine mj_aload_n d_Sea_takeKey_67 rfl ?_
      refine mj_get d_Sea_takeKey_68 fd_Sea_21 h16 rfl ?_
      refine mj_iconst d_Sea_takeKey_71 (nI 0) (by decide) ?_
      refine mj_static (d' := (0, 0)) (mc := 0) (ms := 0) (As := [_, _]) d_Sea_takeKey_72 cw_Arr_fill q_87 q_88 rfl rfl (mRoomB rfl) ?_
      refine s_Arr_fill h20 (by decide) (fun f0 hf0 => ?_)
      have h16 := gne (y := cArr 16 f0) (j := 20) h16 (by decide)
      have h17 := gne (y := cArr 16 f0) (j := 20) h17 (by decide)
      have h18 := gne (y := cArr 16 f0) (j := 20) h18 (by decide)
      have h19 := gne (y := cArr 16 f0) (j := 20) h19 (by decide)
      have h21 := gne (y := cArr 16 f0) (j := 20) h21 (by decide)
      have h20 := gself (y := cArr 16 f0) h20
      refine mj_aload_n d_Sea_takeKey_75 rfl ?_
      refine mj_virtual (d' := (2, 62)) (mc := 0) (ms := 0) (As := []) d_Sea_takeKey_76 cw_Sea_encipher q_90 q_92 qs_Sea_encipher (ci := 3) rfl h16 rfl rfl (mRoomB rfl) ?_
      refine s_Sea_encipher h16 h17 h20 h21 hrk (g := zero) (fun j hj => by rw [hf0 j hj]; rfl) (fun j hj => rkF_lt (kbF_lt a b) j hj) zero_lt (fun t f hx => ?_)
      refine mj_aload_n d_Sea_takeKey_79 rfl ?_
      refine mj_get d_Sea_takeKey_80 fd_Sea_21 (sP_get h16 (by decide) (by decide)) rfl ?_
      refine mj_aload_n d_Sea_takeKey_83 rfl ?_
      refine mj_get d_Sea_takeKey_84 fd_Sea_15 (sP_get h16 (by decide) (by decide)) rfl ?_
      refine mj_static (d' := (0, 0)) (mc := 0) (ms := 0) (As := [_, _]) d_Sea_takeKey_87 cw_Sea_doubleRow q_109 q_110 rfl rfl (mRoomB rfl) ?_
      have hrl : Bt 176 (rkF (kbF a b)) := fun j hj => rkF_lt (kbF_lt a b) j hj
      refine s_Sea_doubleRow (sP_20 h20) (sP_get h18 (by decide) (by decide)) (by decide) hx (enc_lt hrl zero_lt) (fun fw hfw => ?_)
      refine mj_aload_n d_Sea_takeKey_90 rfl ?_
      refine mj_get d_Sea_takeKey_91 fd_Sea_15 (gne (sP_get h16 (by decide) (by decide)) (by decide)) rfl ?_
      refine mj_aload_n d_Sea_takeKey_94 rfl ?_
      refine mj_get d_Sea_takeKey_95 fd_Sea_18 (gne (sP_get h16 (by decide) (by decide)) (by decide)) rfl ?_
      refine mj_static (d' := (0, 0)) (mc := 0) (ms := 0) (As := [_, _]) d_Sea_takeKey_98 cw_Sea_doubleRow q_109 q_110 rfl rfl (mRoomB rfl) ?_
      refine s_Sea_doubleRow (gself (sP_get h18 (by decide) (by decide))) (gne (sP_get h19 (by decide) (by decide)) (by decide)) (by decide) hfw (dbl_lt (enc_lt hrl zero_lt)) (fun ff hff => ?_)
      refine mj_vret d_Sea_takeKey_101 rfl (Nat.le_refl _) (Nat.le_refl _) ?_
      subst eh
      exact kP frk f0 t f fw ff hrk hfw hff
    · omega
  | succ m ih =>
    intro i f hi hf
    refine mj_iload d_Sea_takeKey_3 rfl ?_
    refine mj_bipush d_Sea_takeKey_5 (nI 8) (by decide) ?_
    refine mj_icmpgeN d_Sea_takeKey_7 63 rfl (by omega) (fun c_7 => ?_) (fun c_7 => ?_)
    · omega
    · refine mj_aload_n d_Sea_takeKey_10 rfl ?_
      refine mj_get d_Sea_takeKey_11 fd_Sea_11 (gne h16 (by decide)) rfl ?_
      refine mj_iload d_Sea_takeKey_14 rfl ?_
      refine mj_lload_n d_Sea_takeKey_16 rfl ?_
      refine mj_bipush d_Sea_takeKey_17 (nI 56) (by decide) ?_
      refine mj_bipush d_Sea_takeKey_19 (nI 8) (by decide) ?_
      refine mj_iload d_Sea_takeKey_21 rfl ?_
      refine mj_imul d_Sea_takeKey_23 ?_
      refine mj_isub d_Sea_takeKey_24 ?_
      refine mj_lshr d_Sea_takeKey_25 ?_
      refine mj_l2i d_Sea_takeKey_26 ?_
      refine mj_sipush d_Sea_takeKey_27 (nI 255) (by decide) ?_
      refine mj_iand d_Sea_takeKey_30 ?_
      rw [l_b1' _ _ (7 - i) (sh56 i (by omega)) (by omega)]
      refine mj_iastN d_Sea_takeKey_31 (gself h17) (by omega) ?_
      refine mj_aload_n d_Sea_takeKey_32 rfl ?_
      refine mj_get d_Sea_takeKey_33 fd_Sea_11 (gne (gne h16 (by decide)) (by decide)) rfl ?_
      refine mj_bipush d_Sea_takeKey_36 (nI 8) (by decide) ?_
      refine mj_iload d_Sea_takeKey_38 rfl ?_
      refine mj_iadd d_Sea_takeKey_40 ?_
      rw [nI_add]
      refine mj_lload_n d_Sea_takeKey_41 rfl ?_
      refine mj_bipush d_Sea_takeKey_42 (nI 56) (by decide) ?_
      refine mj_bipush d_Sea_takeKey_44 (nI 8) (by decide) ?_
      refine mj_iload d_Sea_takeKey_46 rfl ?_
      refine mj_imul d_Sea_takeKey_48 ?_
      refine mj_isub d_Sea_takeKey_49 ?_
      refine mj_lshr d_Sea_takeKey_50 ?_
      refine mj_l2i d_Sea_takeKey_51 ?_
      refine mj_sipush d_Sea_takeKey_52 (nI 255) (by decide) ?_
      refine mj_iand d_Sea_takeKey_55 ?_
      rw [l_b1' _ _ (7 - i) (sh56 i (by omega)) (by omega)]
      rw [List.set_set]
      refine mj_iastN d_Sea_takeKey_56 (gself h17) (by omega) ?_
      rw [List.set_set]
      refine mj_iinc d_Sea_takeKey_57 rfl (by decide) (nI (i + 1)) (nI_1 i) ?_
      dsimp only [mSt1, mSt2, mKill, Nat.reduceAdd]
      refine mj_goto d_Sea_takeKey_60 3 rfl ?_
      refine ih (i + 1) _ (by omega) ?_
      have e := KH_s (by omega) hf
      rw [show kbF a b i = byteN a (7 - i) by rw [kbF, if_pos (by omega)], show kbF a b (8 + i) = byteN b (7 - i) by rw [kbF, if_neg (by omega), show 15 - (8 + i) = 7 - i by omega]] at e
      exact e
theorem s_Sea_takeKey {L : Nat} {xs : Nat → Int32} {Post : Option Value → mHeap → Prop} {h : mHeap} {f17 f18 f19 f20 f21 : Nat → Int32} {a b : Int64} (h16 : h[16]? = some cSea) (h17 : h[17]? = some (cArr 176 f17)) (h18 : h[18]? = some (cArr 16 f18)) (h19 : h[19]? = some (cArr 16 f19)) (h20 : h[20]? = some (cArr 16 f20)) (h21 : h[21]? = some (cArr 16 f21)) (kP : ∀ frk f0 t f fw ff, FA 176 (rkF (kbF a b)) frk → FA 16 (dbl (enc (rkF (kbF a b)) zero)) fw → FA 16 (dbl (dbl (enc (rkF (kbF a b)) zero))) ff → Post none (((sP ((h.set 17 (cArr 176 frk)).set 20 (cArr 16 f0)) t f).set 18 (cArr 16 fw)).set 19 (cArr 16 ff))) : mMet M_Sea_takeKey L xs (3, 83) 0 0 [.ref 16, .long a, .long b] h Post := by
  refine mMet_of rfl (Nat.le_of_ble_eq_true rfl) ?_
  refine mj_iconst d_Sea_takeKey_0 (nI 0) (by decide) ?_
  refine mj_istore d_Sea_takeKey_1 (by decide) ?_
  dsimp only [mSt1, mSt2, mKill, Nat.reduceAdd]
  have e := lp_takeKey h16 h17 h18 h19 h20 h21 kP (L := L) (xs := xs) 8 0 f17 (by omega) (fun j hj => by omega)
  rw [set_same h17] at e
  exact e
theorem s_Sea_byteAt {L : Nat} {xs : Nat → Int32} {Post : Option Value → mHeap → Prop} {h : mHeap} {fx : Nat → Int32} {k : Nat} (h16 : h[16]? = some cSea) (h20 : h[20]? = some (cArr 16 fx)) (hk : k < 16) (kP : Post (some (.int (fx k))) h) : mMet M_Sea_byteAt L xs (0, 0) 0 0 [.ref 16, .int (nI k)] h Post := by
  refine mMet_of rfl (Nat.le_of_ble_eq_true rfl) ?_
  refine mj_iload_n d_Sea_byteAt_0 rfl ?_
  refine mj_iflt d_Sea_byteAt_1 19 rfl (fun c_1 => ?_) (fun c_1 => ?_)
  · exact absurd c_1 (nI_pos (by omega))
  · refine mj_iload_n d_Sea_byteAt_4 rfl ?_
    refine mj_bipush d_Sea_byteAt_5 (nI 16) (by decide) ?_
    refine mj_icmpgeN d_Sea_byteAt_7 19 rfl (by omega) (fun c_7 => ?_) (fun c_7 => ?_)
    · omega
    · refine mj_aload_n d_Sea_byteAt_10 rfl ?_
      refine mj_get d_Sea_byteAt_11 fd_Sea_21 h16 rfl ?_
      refine mj_iload_n d_Sea_byteAt_14 rfl ?_
      refine mj_ialdN d_Sea_byteAt_15 h20 (by omega) ?_
      refine mj_goto d_Sea_byteAt_16 20 rfl ?_
      refine mj_iret d_Sea_byteAt_20 rfl rfl (Nat.le_refl _) (Nat.le_refl _) ?_
      exact kP
/-- what is sealed of a payment -/
def payM (a n c : Int64) (gv pv : Nat) : List Nat := beL a 6 ++ (beL n 4 ++ (beL c 2 ++ [gv, if pv = 0 then 0 else 1]))
theorem payM_len (a n c : Int64) (gv pv : Nat) : (payM a n c gv pv).length = 14 := by simp [payM, beL_len]
theorem payM_lt {a n c : Int64} {gv pv : Nat} (hg : gv < 256) : ∀ b ∈ payM a n c gv pv, b < 256 := by
  intro b hb
  simp only [payM, List.mem_append, List.mem_cons, List.not_mem_nil, or_false] at hb
  rcases hb with h | h | h | h | h
  · exact beL_lt _ _ _ h
  · exact beL_lt _ _ _ h
  · exact beL_lt _ _ _ h
  · omega
  · rw [h]; split <;> decide
theorem s_Sea_payment {L : Nat} {xs : Nat → Int32} {Post : Option Value → mHeap → Prop} {h : mHeap} {pd : List Nat} {f : Nat → Int32} {a n c : Int64} {gv pv : Nat} (h16 : h[16]? = some cSea) (hr : RA h 22 23 16 pd f) (hpv : pv < 2) (kP : ∀ f', Rf (payM a n c gv pv) f' → Post (some (.ref 22)) (rPut h 22 23 16 (payM a n c gv pv) f')) : mMet M_Sea_payment L xs (2, 45) 0 0 [.ref 16, .long a, .long n, .long c, .int (nI gv), .int (nI pv)] h Post := by
  refine mMet_of rfl (Nat.le_of_ble_eq_true rfl) ?_
  refine mj_aload_n d_Sea_payment_0 rfl ?_
  refine mj_get d_Sea_payment_1 fd_Sea_32 h16 rfl ?_
  refine mj_virtual (d' := (0, 0)) (mc := 0) (ms := 0) (As := []) d_Sea_payment_4 cw_Row_clear q_336 q_208 q_209 (ci := 0) rfl hr.1 rfl rfl (mRoomB rfl) ?_
  refine s_Row_clear hr ?_
  have r0 : RA (rPut h 22 23 16 [] f) 22 23 16 [] f := RA_put hr (fun j hj => by simp at hj) (by decide)
  refine mj_aload_n d_Sea_payment_7 rfl ?_
  refine mj_get d_Sea_payment_8 fd_Sea_32 ((rPut_get (by decide) (by decide)).trans h16) rfl ?_
  refine mj_lload_n d_Sea_payment_11 rfl ?_
  refine mj_bipush d_Sea_payment_12 (nI 6) (by decide) ?_
  refine mj_virtual (d' := (1, 21)) (mc := 0) (ms := 0) (As := [_, _]) d_Sea_payment_14 cw_Row_addNumber q_337 q_133 q_134 (ci := 0) rfl r0.1 rfl rfl (mRoomB rfl) ?_
  refine s_Row_addNumber r0 (by simp [beL_len]) (by decide) (fun g1 hg1 => ?_)
  rw [rPut_rPut hr.2.2.2.2.2]
  have r1 := RA_put hr hg1 (by simp [beL_len])
  refine mj_aload_n d_Sea_payment_17 rfl ?_
  refine mj_get d_Sea_payment_18 fd_Sea_32 ((rPut_get (by decide) (by decide)).trans h16) rfl ?_
  refine mj_lload_n d_Sea_payment_21 rfl ?_
  refine mj_iconst d_Sea_payment_22 (nI 4) (by decide) ?_
  refine mj_virtual (d' := (1, 21)) (mc := 0) (ms := 0) (As := [_, _]) d_Sea_payment_23 cw_Row_addNumber q_337 q_133 q_134 (ci := 0) rfl r1.1 rfl rfl (mRoomB rfl) ?_
  refine s_Row_addNumber r1 (by simp [beL_len]) (by decide) (fun g2 hg2 => ?_)
  rw [rPut_rPut hr.2.2.2.2.2]
  have r2 := RA_put hr hg2 (by simp [beL_len])
  refine mj_aload_n d_Sea_payment_26 rfl ?_
  refine mj_get d_Sea_payment_27 fd_Sea_32 ((rPut_get (by decide) (by decide)).trans h16) rfl ?_
  refine mj_lload d_Sea_payment_30 rfl ?_
  refine mj_iconst d_Sea_payment_32 (nI 2) (by decide) ?_
  refine mj_virtual (d' := (1, 21)) (mc := 0) (ms := 0) (As := [_, _]) d_Sea_payment_33 cw_Row_addNumber q_337 q_133 q_134 (ci := 0) rfl r2.1 rfl rfl (mRoomB rfl) ?_
  refine s_Row_addNumber r2 (by simp [beL_len]) (by decide) (fun g3 hg3 => ?_)
  rw [rPut_rPut hr.2.2.2.2.2]
  have r3 := RA_put hr hg3 (by simp [beL_len])
  refine mj_aload_n d_Sea_payment_36 rfl ?_
  refine mj_get d_Sea_payment_37 fd_Sea_32 ((rPut_get (by decide) (by decide)).trans h16) rfl ?_
  refine mj_iload d_Sea_payment_40 rfl ?_
  refine mj_virtual (d' := (0, 0)) (mc := 0) (ms := 0) (As := [_]) d_Sea_payment_42 cw_Row_add q_338 q_137 q_138 (ci := 0) rfl r3.1 rfl rfl (mRoomB rfl) ?_
  refine s_Row_add r3 (fun z => by simp [beL_len] at z) (fun _ g4 hg4 => ?_)
  rw [rPut_rPut hr.2.2.2.2.2]
  have r4 := RA_put hr hg4 (by simp [beL_len])
  refine mj_pop d_Sea_payment_45 rfl ?_
  refine mj_aload_n d_Sea_payment_46 rfl ?_
  refine mj_get d_Sea_payment_47 fd_Sea_32 ((rPut_get (by decide) (by decide)).trans h16) rfl ?_
  refine mj_iload d_Sea_payment_50 rfl ?_
  refine mj_ifeqN d_Sea_payment_52 59 rfl (by omega) (fun c_52 => ?_) (fun c_52 => ?_)
  · refine mj_iconst d_Sea_payment_59 (nI 0) (by decide) ?_
    refine mj_virtual (d' := (0, 0)) (mc := 0) (ms := 0) (As := [_]) d_Sea_payment_60 cw_Row_add q_338 q_137 q_138 (ci := 0) rfl r4.1 rfl rfl (mRoomB rfl) ?_
    refine s_Row_add r4 (fun z => by simp [beL_len] at z) (fun _ g5 hg5 => ?_)
    rw [rPut_rPut hr.2.2.2.2.2]
    refine mj_pop d_Sea_payment_63 rfl ?_
    refine mj_aload_n d_Sea_payment_64 rfl ?_
    refine mj_get d_Sea_payment_65 fd_Sea_32 ((rPut_get (by decide) (by decide)).trans h16) rfl ?_
    refine mj_aret d_Sea_payment_68 rfl (Or.inl ⟨_, rfl⟩) (Nat.le_refl _) (Nat.le_refl _) ?_
    first
      | (have e : ([] ++ beL a 6 ++ beL n 4 ++ beL c 2 ++ [gv] ++ [0]) = payM a n c gv pv := by unfold payM; rw [if_pos (by omega)]; simp
         rw [e] at hg5 ⊢; exact kP g5 hg5)
      | (have e : ([] ++ beL a 6 ++ beL n 4 ++ beL c 2 ++ [gv] ++ [1]) = payM a n c gv pv := by unfold payM; rw [if_neg (by omega)]; simp
         rw [e] at hg5 ⊢; exact kP g5 hg5)
  · refine mj_iconst d_Sea_payment_55 (nI 1) (by decide) ?_
    refine mj_goto d_Sea_payment_56 60 rfl ?_
    refine mj_virtual (d' := (0, 0)) (mc := 0) (ms := 0) (As := [_]) d_Sea_payment_60 cw_Row_add q_338 q_137 q_138 (ci := 0) rfl r4.1 rfl rfl (mRoomB rfl) ?_
    refine s_Row_add r4 (fun z => by simp [beL_len] at z) (fun _ g5 hg5 => ?_)
    rw [rPut_rPut hr.2.2.2.2.2]
    refine mj_pop d_Sea_payment_63 rfl ?_
    refine mj_aload_n d_Sea_payment_64 rfl ?_
    refine mj_get d_Sea_payment_65 fd_Sea_32 ((rPut_get (by decide) (by decide)).trans h16) rfl ?_
    refine mj_aret d_Sea_payment_68 rfl (Or.inl ⟨_, rfl⟩) (Nat.le_refl _) (Nat.le_refl _) ?_
    first
      | (have e : ([] ++ beL a 6 ++ beL n 4 ++ beL c 2 ++ [gv] ++ [0]) = payM a n c gv pv := by unfold payM; rw [if_pos (by omega)]; simp
         rw [e] at hg5 ⊢; exact kP g5 hg5)
      | (have e : ([] ++ beL a 6 ++ beL n 4 ++ beL c 2 ++ [gv] ++ [1]) = payM a n c gv pv := by unfold payM; rw [if_neg (by omega)]; simp
         rw [e] at hg5 ⊢; exact kP g5 hg5)
