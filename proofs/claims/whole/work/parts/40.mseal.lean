abbrev cMod (cu tr an sg am pv tn sz : Nat) : mCell := .inr (6, [.ref 25, .ref 26, .ref 27, .ref 28, .ref 29, .ref 30, .int (nI cu), .int (nI tr), .int (nI an), .int (nI sg), .long (lN am), .int (nI pv), .int (nI tn), .ref 31, .int (nI sz), .ref 32, .ref 33, .ref 34, .ref 35, .ref 36, .ref 37, .ref 38, .ref 39, .ref 40, .ref 41])
def eP (h : mHeap) (t f : Nat → Int32) : mHeap := (h.set 37 (cArr 16 t)).set 36 (cArr 16 f)
theorem eP_get {h : mHeap} {t f : Nat → Int32} {k : Nat} {x : mCell} (hk : h[k]? = some x) (h1 : 36 ≠ k) (h2 : 37 ≠ k) : (eP h t f)[k]? = some x := gne (gne hk h2) h1
theorem eP_36 {h : mHeap} {t f : Nat → Int32} {x : mCell} (hk : h[36]? = some x) : (eP h t f)[36]? = some (cArr 16 f) := gself (gne (y := cArr 16 t) hk (by decide))
theorem eP_37 {h : mHeap} {t f : Nat → Int32} {x : mCell} (hk : h[37]? = some x) : (eP h t f)[37]? = some (cArr 16 t) := gne (gself (y := cArr 16 t) hk) (by decide)
theorem eP_s36 {h : mHeap} {t f f' : Nat → Int32} : (eP h t f).set 36 (cArr 16 f') = eP h t f' := by unfold eP; rw [List.set_set]
theorem eP_s37 {h : mHeap} {t f t' : Nat → Int32} : (eP h t f).set 37 (cArr 16 t') = eP h t' f := by
  unfold eP
  rw [List.set_comm _ _ (show (36 : Nat) ≠ 37 by decide), List.set_set]
theorem eP_0 {h : mHeap} {t f : Nat → Int32} (hk : h[37]? = some (cArr 16 t)) : h.set 36 (cArr 16 f) = eP h t f := by unfold eP; rw [set_same hk]
def tmI (a b : Nat) : Nat → Nat × Nat
  | 0 => (0, a)
  | k + 1 => (if b / 2 ^ k % 2 = 1 then (tmI a b k).1 ^^^ (tmI a b k).2 else (tmI a b k).1, x2 (tmI a b k).2)
def tm (a b : Nat) : Nat := (tmI a b 8).1
theorem tmI_lt {a b : Nat} (ha : a < 256) : ∀ k, (tmI a b k).1 < 256 ∧ (tmI a b k).2 < 256
  | 0 => ⟨by show 0 < 256; decide, ha⟩
  | k + 1 => by
    have ih := tmI_lt (b := b) ha k
    rw [tmI]
    refine ⟨?_, x2_lt _ ih.2⟩
    dsimp only
    split
    · exact xor_lt ih.1 ih.2
    · exact ih.1
theorem tm_2 : ∀ b, b < 256 → tm 2 b = x2 b := by decide +kernel
theorem tm_3 : ∀ b, b < 256 → tm 3 b = x2 b ^^^ b := by decide +kernel
theorem tm_p : ∀ b, b < 256 → tm b 2 = x2 b := by decide +kernel
theorem sh8 : ∀ k : Nat, k < 8 → ((nI k &&& 31).toBitVec.smod 32).toNat = k := by decide +kernel
theorem nI_shrk {b k : Nat} (hb : b < 2 ^ 31) (hk : k < 8) : nI b >>> (nI k &&& 31) = nI (b / 2 ^ k) := pk_shrN hb (nI k &&& 31) k (sh8 k hk)
theorem nI_and1 (a : Nat) : nI a &&& nI 1 = nI (a % 2) := by rw [nI_and, Nat.and_one_is_mod]
theorem lp_times {L : Nat} {xs : Nat → Int32} {Post : Option Value → mHeap → Prop} {h : mHeap} {a b : Nat} (ha : a < 256) (hb : b < 256) (kP : Post (some (.int (nI (tm a b)))) h) : ∀ (m k : Nat), k + m = 8 → mGo M_Mod_times L xs (0, 0) 0 0 Post 0 0 7 [some (.int (nI a)), some (.int (nI b)), some (.int (nI (tmI a b k).1)), some (.int (nI (tmI a b k).2)), some (.int (nI k))] [] h := by
  intro m
  induction m with
  | zero =>
    intro k hk
    refine mj_iload d_Mod_times_7 rfl ?_
    refine mj_bipush d_Mod_times_9 (nI 8) (by decide) ?_
    refine mj_icmpgeN d_Mod_times_11 58 rfl (by omega) (fun c_11 => ?_) (fun c_11 => ?_)
    · refine mj_iload_n d_Mod_times_58 rfl ?_
      refine mj_iret d_Mod_times_59 rfl rfl (Nat.le_refl _) (Nat.le_refl _) ?_
      obtain rfl : k = 8 := by omega
      exact kP
    · omega
  | succ m ih =>
    intro k hk
    have hl := tmI_lt (b := b) ha k
    have hbk : b / 2 ^ k ≤ b := Nat.div_le_self _ _
    refine mj_iload d_Mod_times_7 rfl ?_
    refine mj_bipush d_Mod_times_9 (nI 8) (by decide) ?_
    refine mj_icmpgeN d_Mod_times_11 58 rfl (by omega) (fun c_11 => ?_) (fun c_11 => ?_)
    · omega
    · refine mj_iload_n d_Mod_times_14 rfl ?_
      refine mj_iload d_Mod_times_15 rfl ?_
      refine mj_ishr d_Mod_times_17 ?_
      rw [nI_shrk (by omega) (by omega)]
      refine mj_iconst d_Mod_times_18 (nI 1) (by decide) ?_
      refine mj_iand d_Mod_times_19 ?_
      rw [nI_and1]
      refine mj_iconst d_Mod_times_20 (nI 1) (by decide) ?_
      refine mj_icmpneN d_Mod_times_21 30 rfl (by omega) (fun c_21 => ?_) (fun c_21 => ?_)
      · refine mj_iload_n d_Mod_times_30 rfl ?_
        refine mj_istore_n d_Mod_times_31 (by decide) ?_
        dsimp only [mSt1, mSt2, mKill, Nat.reduceAdd]
        refine mj_iload_n d_Mod_times_32 rfl ?_
        refine mj_bipush d_Mod_times_33 (nI 127) (by decide) ?_
        refine mj_icmpleN d_Mod_times_35 48 rfl (by omega) (fun c_35 => ?_) (fun c_35 => ?_)
        · refine mj_iconst d_Mod_times_48 (nI 2) (by decide) ?_
          refine mj_iload_n d_Mod_times_49 rfl ?_
          refine mj_imul d_Mod_times_50 ?_
          rw [pk_mul]
          refine mj_istore_n d_Mod_times_51 (by decide) ?_
          dsimp only [mSt1, mSt2, mKill, Nat.reduceAdd]
          refine mj_iinc d_Mod_times_52 rfl (by decide) (nI (k + 1)) (nI_1 k) ?_
          dsimp only [mSt1, mSt2, mKill, Nat.reduceAdd]
          refine mj_goto d_Mod_times_55 7 rfl ?_
          have e1 : (tmI a b (k + 1)).1 = if b / 2 ^ k % 2 = 1 then (tmI a b k).1 ^^^ (tmI a b k).2 else (tmI a b k).1 := rfl
          have e2 : (tmI a b (k + 1)).2 = if 127 < (tmI a b k).2 then 2 * (tmI a b k).2 ^^^ 283 else 2 * (tmI a b k).2 := rfl
          have e := ih (k + 1) (by omega)
          rw [e1, e2] at e
          first
            | (rw [if_pos c_21, if_pos (by omega)] at e; exact e)
            | (rw [if_pos c_21, if_neg (by omega)] at e; exact e)
            | (rw [if_neg c_21, if_pos (by omega)] at e; exact e)
            | (rw [if_neg c_21, if_neg (by omega)] at e; exact e)
        · refine mj_iconst d_Mod_times_38 (nI 2) (by decide) ?_
          refine mj_iload_n d_Mod_times_39 rfl ?_
          refine mj_imul d_Mod_times_40 ?_
          rw [pk_mul]
          refine mj_sipush d_Mod_times_41 (nI 283) (by decide) ?_
          refine mj_ixor d_Mod_times_44 ?_
          rw [nI_xor]
          refine mj_goto d_Mod_times_45 51 rfl ?_
          refine mj_istore_n d_Mod_times_51 (by decide) ?_
          dsimp only [mSt1, mSt2, mKill, Nat.reduceAdd]
          refine mj_iinc d_Mod_times_52 rfl (by decide) (nI (k + 1)) (nI_1 k) ?_
          dsimp only [mSt1, mSt2, mKill, Nat.reduceAdd]
          refine mj_goto d_Mod_times_55 7 rfl ?_
          have e1 : (tmI a b (k + 1)).1 = if b / 2 ^ k % 2 = 1 then (tmI a b k).1 ^^^ (tmI a b k).2 else (tmI a b k).1 := rfl
          have e2 : (tmI a b (k + 1)).2 = if 127 < (tmI a b k).2 then 2 * (tmI a b k).2 ^^^ 283 else 2 * (tmI a b k).2 := rfl
          have e := ih (k + 1) (by omega)
          rw [e1, e2] at e
          first
            | (rw [if_pos c_21, if_pos (by omega)] at e; exact e)
            | (rw [if_pos c_21, if_neg (by omega)] at e; exact e)
            | (rw [if_neg c_21, if_pos (by omega)] at e; exact e)
            | (rw [if_neg c_21, if_neg (by omega)] at e; exact e)
      · refine mj_iload_n d_Mod_times_24 rfl ?_
        refine mj_iload_n d_Mod_times_25 rfl ?_
        refine mj_ixor d_Mod_times_26 ?_
        rw [nI_xor]
        refine mj_goto d_Mod_times_27 31 rfl ?_
        refine mj_istore_n d_Mod_times_31 (by decide) ?_
        dsimp only [mSt1, mSt2, mKill, Nat.reduceAdd]
        refine mj_iload_n d_Mod_times_32 rfl ?_
        refine mj_bipush d_Mod_times_33 (nI 127) (by decide) ?_
        refine mj_icmpleN d_Mod_times_35 48 rfl (by omega) (fun c_35 => ?_) (fun c_35 => ?_)
        · refine mj_iconst d_Mod_times_48 (nI 2) (by decide) ?_
          refine mj_iload_n d_Mod_times_49 rfl ?_
          refine mj_imul d_Mod_times_50 ?_
          rw [pk_mul]
          refine mj_istore_n d_Mod_times_51 (by decide) ?_
          dsimp only [mSt1, mSt2, mKill, Nat.reduceAdd]
          refine mj_iinc d_Mod_times_52 rfl (by decide) (nI (k + 1)) (nI_1 k) ?_
          dsimp only [mSt1, mSt2, mKill, Nat.reduceAdd]
          refine mj_goto d_Mod_times_55 7 rfl ?_
          have e1 : (tmI a b (k + 1)).1 = if b / 2 ^ k % 2 = 1 then (tmI a b k).1 ^^^ (tmI a b k).2 else (tmI a b k).1 := rfl
          have e2 : (tmI a b (k + 1)).2 = if 127 < (tmI a b k).2 then 2 * (tmI a b k).2 ^^^ 283 else 2 * (tmI a b k).2 := rfl
          have e := ih (k + 1) (by omega)
          rw [e1, e2] at e
          first
            | (rw [if_pos c_21, if_pos (by omega)] at e; exact e)
            | (rw [if_pos c_21, if_neg (by omega)] at e; exact e)
            | (rw [if_neg c_21, if_pos (by omega)] at e; exact e)
            | (rw [if_neg c_21, if_neg (by omega)] at e; exact e)
        · refine mj_iconst d_Mod_times_38 (nI 2) (by decide) ?_
          refine mj_iload_n d_Mod_times_39 rfl ?_
          refine mj_imul d_Mod_times_40 ?_
          rw [pk_mul]
          refine mj_sipush d_Mod_times_41 (nI 283) (by decide) ?_
          refine mj_ixor d_Mod_times_44 ?_
          rw [nI_xor]
          refine mj_goto d_Mod_times_45 51 rfl ?_
          refine mj_istore_n d_Mod_times_51 (by decide) ?_
          dsimp only [mSt1, mSt2, mKill, Nat.reduceAdd]
          refine mj_iinc d_Mod_times_52 rfl (by decide) (nI (k + 1)) (nI_1 k) ?_
          dsimp only [mSt1, mSt2, mKill, Nat.reduceAdd]
          refine mj_goto d_Mod_times_55 7 rfl ?_
          have e1 : (tmI a b (k + 1)).1 = if b / 2 ^ k % 2 = 1 then (tmI a b k).1 ^^^ (tmI a b k).2 else (tmI a b k).1 := rfl
          have e2 : (tmI a b (k + 1)).2 = if 127 < (tmI a b k).2 then 2 * (tmI a b k).2 ^^^ 283 else 2 * (tmI a b k).2 := rfl
          have e := ih (k + 1) (by omega)
          rw [e1, e2] at e
          first
            | (rw [if_pos c_21, if_pos (by omega)] at e; exact e)
            | (rw [if_pos c_21, if_neg (by omega)] at e; exact e)
            | (rw [if_neg c_21, if_pos (by omega)] at e; exact e)
            | (rw [if_neg c_21, if_neg (by omega)] at e; exact e)
theorem s_Mod_times {L : Nat} {xs : Nat → Int32} {Post : Option Value → mHeap → Prop} {h : mHeap} {a b : Nat} (ha : a < 256) (hb : b < 256) (kP : Post (some (.int (nI (tm a b)))) h) : mMet M_Mod_times L xs (0, 0) 0 0 [.int (nI a), .int (nI b)] h Post := by
  refine mMet_of rfl (Nat.le_of_ble_eq_true rfl) ?_
  refine mj_iconst d_Mod_times_0 (nI 0) (by decide) ?_
  refine mj_istore_n d_Mod_times_1 (by decide) ?_
  dsimp only [mSt1, mSt2, mKill, Nat.reduceAdd]
  refine mj_iload_n d_Mod_times_2 rfl ?_
  refine mj_istore_n d_Mod_times_3 (by decide) ?_
  dsimp only [mSt1, mSt2, mKill, Nat.reduceAdd]
  refine mj_iconst d_Mod_times_4 (nI 0) (by decide) ?_
  refine mj_istore d_Mod_times_5 (by decide) ?_
  dsimp only [mSt1, mSt2, mKill, Nat.reduceAdd]
  exact lp_times ha hb kP 8 0 (by omega)
theorem lp_combineM {L : Nat} {xs : Nat → Int32} {Post : Option Value → mHeap → Prop} {h : mHeap} {frk fx : Nat → Int32} {rk g : Nat → Nat} {cu tr an sg am pv tn sz : Nat} (h24 : h[24]? = some (cMod cu tr an sg am pv tn sz)) (h35 : h[35]? = some (cArr 176 frk)) (h36 : h[36]? = some (cArr 16 fx)) (hk : FA 176 rk frk) (hx : FA 16 g fx) {r : Nat} (hr : r ≤ 10) (kP : ∀ f', FA 16 (addk rk r g) f' → Post none (h.set 36 (cArr 16 f'))) : ∀ (m i : Nat) (f : Nat → Int32), i + m = 16 → FA 16 (pu i (addk rk r g) g) f → mGo M_Mod_combineKey L xs (0, 0) 0 0 Post 0 0 2 [some (.ref 24), some (.int (nI r)), some (.int (nI i))] [] (h.set 36 (cArr 16 f)) := by
  intro m
  induction m with
  | zero =>
    intro i f hi hf
    refine mj_iload_n d_Mod_combineKey_2 rfl ?_
    refine mj_bipush d_Mod_combineKey_3 (nI 16) (by decide) ?_
    refine mj_icmpgeN d_Mod_combineKey_5 38 rfl (by omega) (fun c_5 => ?_) (fun c_5 => ?_)
    · refine mj_vret d_Mod_combineKey_38 rfl (Nat.le_refl _) (Nat.le_refl _) ?_
      exact kP f (pu_e hf (by omega))
    · omega
  | succ m ih =>
    intro i f hi hf
    refine mj_iload_n d_Mod_combineKey_2 rfl ?_
    refine mj_bipush d_Mod_combineKey_3 (nI 16) (by decide) ?_
    refine mj_icmpgeN d_Mod_combineKey_5 38 rfl (by omega) (fun c_5 => ?_) (fun c_5 => ?_)
    · omega
    · refine mj_aload_n d_Mod_combineKey_8 rfl ?_
      refine mj_get d_Mod_combineKey_9 fd_Mod_47 (gne h24 (by decide)) rfl ?_
      refine mj_iload_n d_Mod_combineKey_12 rfl ?_
      refine mj_aload_n d_Mod_combineKey_13 rfl ?_
      refine mj_get d_Mod_combineKey_14 fd_Mod_47 (gne h24 (by decide)) rfl ?_
      refine mj_iload_n d_Mod_combineKey_17 rfl ?_
      refine mj_ialdN d_Mod_combineKey_18 (gself h36) (by omega) ?_
      rw [hf _ (by omega), pu_hi (Nat.le_refl _)]
      refine mj_aload_n d_Mod_combineKey_19 rfl ?_
      refine mj_get d_Mod_combineKey_20 fd_Mod_44 (gne h24 (by decide)) rfl ?_
      refine mj_bipush d_Mod_combineKey_23 (nI 16) (by decide) ?_
      refine mj_iload_n d_Mod_combineKey_25 rfl ?_
      refine mj_imul d_Mod_combineKey_26 ?_
      refine mj_iload_n d_Mod_combineKey_27 rfl ?_
      refine mj_iadd d_Mod_combineKey_28 ?_
      rw [pk_mul, nI_add]
      refine mj_ialdN d_Mod_combineKey_29 (gne h35 (by decide)) (by omega) ?_
      rw [hk _ (by omega)]
      refine mj_ixor d_Mod_combineKey_30 ?_
      rw [nI_xor]
      refine mj_iastN d_Mod_combineKey_31 (gself h36) (by omega) ?_
      rw [List.set_set]
      refine mj_iinc d_Mod_combineKey_32 rfl (by decide) (nI (i + 1)) (nI_1 i) ?_
      dsimp only [mSt1, mSt2, mKill, Nat.reduceAdd]
      refine mj_goto d_Mod_combineKey_35 2 rfl ?_
      exact ih (i + 1) _ (by omega) (pu_s hf)
theorem s_Mod_combineKey {L : Nat} {xs : Nat → Int32} {Post : Option Value → mHeap → Prop} {h : mHeap} {frk fx : Nat → Int32} {rk g : Nat → Nat} {cu tr an sg am pv tn sz : Nat} (h24 : h[24]? = some (cMod cu tr an sg am pv tn sz)) (h35 : h[35]? = some (cArr 176 frk)) (h36 : h[36]? = some (cArr 16 fx)) (hk : FA 176 rk frk) (hx : FA 16 g fx) {r : Nat} (hr : r ≤ 10) (kP : ∀ f', FA 16 (addk rk r g) f' → Post none (h.set 36 (cArr 16 f'))) : mMet M_Mod_combineKey L xs (0, 0) 0 0 [.ref 24, .int (nI r)] h Post := by
  refine mMet_of rfl (Nat.le_of_ble_eq_true rfl) ?_
  refine mj_iconst d_Mod_combineKey_0 (nI 0) (by decide) ?_
  refine mj_istore_n d_Mod_combineKey_1 (by decide) ?_
  dsimp only [mSt1, mSt2, mKill, Nat.reduceAdd]
  have e := lp_combineM h24 h35 h36 hk hx hr kP (L := L) (xs := xs) 16 0 fx (by omega) (pu_0 hx)
  rw [set_same h36] at e
  exact e
theorem li_mixRows {L : Nat} {xs : Nat → Int32} {Post : Option Value → mHeap → Prop} {h : mHeap} {fx ft fta : Nat → Int32} {g : Nat → Nat} {cu tr an sg am pv tn sz : Nat} (h24 : h[24]? = some (cMod cu tr an sg am pv tn sz)) (h34 : h[34]? = some (cArr 256 fta)) (h36 : h[36]? = some (cArr 16 fx)) (h37 : h[37]? = some (cArr 16 ft)) (hta : FA 256 sbN fta) (hx : FA 16 g fx) (hb : Bt 16 g) {j : Nat} (hj : j < 4) (ko : ∀ (f : Nat → Int32) (w : Int32), FA (4 * (j + 1)) (sub1 g) f → mGo M_Mod_mixRows L xs (0, 0) 0 0 Post 0 0 2 [some (.ref 24), some (.int (nI (j + 1))), some (.int w)] [] (h.set 37 (cArr 16 f))) : ∀ (m i : Nat) (f : Nat → Int32), i + m = 4 → FA (4 * j + i) (sub1 g) f → mGo M_Mod_mixRows L xs (0, 0) 0 0 Post 0 0 9 [some (.ref 24), some (.int (nI j)), some (.int (nI i))] [] (h.set 37 (cArr 16 f)) := by
  intro m
  induction m with
  | zero =>
    intro i f hi hf
    refine mj_iload_n d_Mod_mixRows_9 rfl ?_
    refine mj_iconst d_Mod_mixRows_10 (nI 4) (by decide) ?_
    refine mj_icmpgeN d_Mod_mixRows_11 49 rfl (by omega) (fun c_11 => ?_) (fun c_11 => ?_)
    · refine mj_iinc d_Mod_mixRows_49 rfl (by decide) (nI (j + 1)) (nI_1 j) ?_
      dsimp only [mSt1, mSt2, mKill, Nat.reduceAdd]
      refine mj_goto d_Mod_mixRows_52 2 rfl ?_
      exact ko f (nI i) (by rw [show 4 * (j + 1) = 4 * j + i by omega]; exact hf)
    · omega
  | succ m ih =>
    intro i f hi hf
    refine mj_iload_n d_Mod_mixRows_9 rfl ?_
    refine mj_iconst d_Mod_mixRows_10 (nI 4) (by decide) ?_
    refine mj_icmpgeN d_Mod_mixRows_11 49 rfl (by omega) (fun c_11 => ?_) (fun c_11 => ?_)
    · omega
    · refine mj_aload_n d_Mod_mixRows_14 rfl ?_
      refine mj_get d_Mod_mixRows_15 fd_Mod_50 (gne h24 (by decide)) rfl ?_
      refine mj_iload_n d_Mod_mixRows_18 rfl ?_
      refine mj_iconst d_Mod_mixRows_19 (nI 4) (by decide) ?_
      refine mj_iload_n d_Mod_mixRows_20 rfl ?_
      refine mj_imul d_Mod_mixRows_21 ?_
      refine mj_iadd d_Mod_mixRows_22 ?_
      rw [pk_mul, nI_add, Nat.add_comm i (4 * j)]
      refine mj_aload_n d_Mod_mixRows_23 rfl ?_
      refine mj_get d_Mod_mixRows_24 fd_Mod_41 (gne h24 (by decide)) rfl ?_
      refine mj_aload_n d_Mod_mixRows_27 rfl ?_
      refine mj_get d_Mod_mixRows_28 fd_Mod_47 (gne h24 (by decide)) rfl ?_
      refine mj_iload_n d_Mod_mixRows_31 rfl ?_
      refine mj_iconst d_Mod_mixRows_32 (nI 4) (by decide) ?_
      refine mj_iload_n d_Mod_mixRows_33 rfl ?_
      refine mj_iload_n d_Mod_mixRows_34 rfl ?_
      refine mj_iadd d_Mod_mixRows_35 ?_
      rw [nI_add]
      refine mj_iconst d_Mod_mixRows_36 (nI 4) (by decide) ?_
      refine mj_irem d_Mod_mixRows_37 (by decide) ?_
      rw [pk_rem (by omega) (by decide) (by decide)]
      refine mj_imul d_Mod_mixRows_38 ?_
      refine mj_iadd d_Mod_mixRows_39 ?_
      rw [pk_mul, nI_add]
      refine mj_ialdN d_Mod_mixRows_40 (gne h36 (by decide)) (by omega) ?_
      rw [hx _ (by omega)]
      refine mj_ialdN d_Mod_mixRows_41 (gne h34 (by decide)) (by have := hb (i + 4 * ((j + i) % 4)) (by omega); omega) ?_
      rw [hta _ (hb _ (by omega)), ← sub1_at (by omega)]
      refine mj_iastN d_Mod_mixRows_42 (gself h37) (by omega) ?_
      rw [List.set_set]
      refine mj_iinc d_Mod_mixRows_43 rfl (by decide) (nI (i + 1)) (nI_1 i) ?_
      dsimp only [mSt1, mSt2, mKill, Nat.reduceAdd]
      refine mj_goto d_Mod_mixRows_46 9 rfl ?_
      exact ih (i + 1) _ (by omega) (FA_s hf)
theorem lo_mixRows {L : Nat} {xs : Nat → Int32} {Post : Option Value → mHeap → Prop} {h : mHeap} {fx ft fta : Nat → Int32} {g : Nat → Nat} {cu tr an sg am pv tn sz : Nat} (h24 : h[24]? = some (cMod cu tr an sg am pv tn sz)) (h34 : h[34]? = some (cArr 256 fta)) (h36 : h[36]? = some (cArr 16 fx)) (h37 : h[37]? = some (cArr 16 ft)) (hta : FA 256 sbN fta) (hx : FA 16 g fx) (hb : Bt 16 g) (kP : ∀ t, FA 16 (sub1 g) t → Post none (h.set 37 (cArr 16 t))) : ∀ (m j : Nat) (f : Nat → Int32) (w : Option Value), j + m = 4 → FA (4 * j) (sub1 g) f → mGo M_Mod_mixRows L xs (0, 0) 0 0 Post 0 0 2 [some (.ref 24), some (.int (nI j)), w] [] (h.set 37 (cArr 16 f)) := by
  intro m
  induction m with
  | zero =>
    intro j f w hj hf
    refine mj_iload_n d_Mod_mixRows_2 rfl ?_
    refine mj_iconst d_Mod_mixRows_3 (nI 4) (by decide) ?_
    refine mj_icmpgeN d_Mod_mixRows_4 55 rfl (by omega) (fun c_4 => ?_) (fun c_4 => ?_)
    · refine mj_vret d_Mod_mixRows_55 rfl (Nat.le_refl _) (Nat.le_refl _) ?_
      exact kP f (FA_le hf (by omega))
    · omega
  | succ m ih =>
    intro j f w hj hf
    refine mj_iload_n d_Mod_mixRows_2 rfl ?_
    refine mj_iconst d_Mod_mixRows_3 (nI 4) (by decide) ?_
    refine mj_icmpgeN d_Mod_mixRows_4 55 rfl (by omega) (fun c_4 => ?_) (fun c_4 => ?_)
    · omega
    · refine mj_iconst d_Mod_mixRows_7 (nI 0) (by decide) ?_
      refine mj_istore_n d_Mod_mixRows_8 (by decide) ?_
      dsimp only [mSt1, mSt2, mKill, Nat.reduceAdd]
      exact li_mixRows h24 h34 h36 h37 hta hx hb (by omega) (fun f w hf => ih (j + 1) f (some (.int w)) (by omega) hf) 4 0 f (by omega) hf
theorem s_Mod_mixRows {L : Nat} {xs : Nat → Int32} {Post : Option Value → mHeap → Prop} {h : mHeap} {fx ft fta : Nat → Int32} {g : Nat → Nat} {cu tr an sg am pv tn sz : Nat} (h24 : h[24]? = some (cMod cu tr an sg am pv tn sz)) (h34 : h[34]? = some (cArr 256 fta)) (h36 : h[36]? = some (cArr 16 fx)) (h37 : h[37]? = some (cArr 16 ft)) (hta : FA 256 sbN fta) (hx : FA 16 g fx) (hb : Bt 16 g) (kP : ∀ t, FA 16 (sub1 g) t → Post none (h.set 37 (cArr 16 t))) : mMet M_Mod_mixRows L xs (0, 0) 0 0 [.ref 24] h Post := by
  refine mMet_of rfl (Nat.le_of_ble_eq_true rfl) ?_
  refine mj_iconst d_Mod_mixRows_0 (nI 0) (by decide) ?_
  refine mj_istore_n d_Mod_mixRows_1 (by decide) ?_
  dsimp only [mSt1, mSt2, mKill, Nat.reduceAdd]
  have e := lo_mixRows h24 h34 h36 h37 hta hx hb kP (L := L) (xs := xs) 4 0 ft none (by omega) (fun j hj => by omega)
  rw [set_same h37] at e
  exact e
theorem x2_xor : ∀ a, a < 256 → ∀ b, b < 256 → x2 (a ^^^ b) = x2 a ^^^ x2 b := by decide +kernel
theorem mixM {g : Nat → Nat} {i j : Nat} (hb : Bt 16 g) (hi : i < 4) (hj : j < 4) : tm 2 (g (i + 4 * j)) ^^^ tm 3 (g ((i + 1) % 4 + 4 * j)) ^^^ g ((i + 2) % 4 + 4 * j) ^^^ g ((i + 3) % 4 + 4 * j) = mix1 g (4 * j + i) := by
  rw [tm_2 _ (hb _ (by omega)), tm_3 _ (hb _ (by omega))]
  unfold mix1
  rw [show (4 * j + i) / 4 = j by omega, x2_xor _ (hb _ (by omega)) _ (hb _ (by omega))]
  rcases (show i = 0 ∨ i = 1 ∨ i = 2 ∨ i = 3 by omega) with rfl | rfl | rfl | rfl
  all_goals
    first
      | rw [show 4 * j + (4 * j + 0 + 1) % 4 = 4 * j + 1 by omega, show 0 + 4 * j = 4 * j by omega, show 4 * j + 0 = 4 * j by omega, show (0 + 1) % 4 + 4 * j = 4 * j + 1 by omega, show (0 + 2) % 4 + 4 * j = 4 * j + 2 by omega, show (0 + 3) % 4 + 4 * j = 4 * j + 3 by omega]
      | rw [show 4 * j + (4 * j + 1 + 1) % 4 = 4 * j + 2 by omega, show 1 + 4 * j = 4 * j + 1 by omega, show (1 + 1) % 4 + 4 * j = 4 * j + 2 by omega, show (1 + 2) % 4 + 4 * j = 4 * j + 3 by omega, show (1 + 3) % 4 + 4 * j = 4 * j by omega]
      | rw [show 4 * j + (4 * j + 2 + 1) % 4 = 4 * j + 3 by omega, show 2 + 4 * j = 4 * j + 2 by omega, show (2 + 1) % 4 + 4 * j = 4 * j + 3 by omega, show (2 + 2) % 4 + 4 * j = 4 * j by omega, show (2 + 3) % 4 + 4 * j = 4 * j + 1 by omega]
      | rw [show 4 * j + (4 * j + 3 + 1) % 4 = 4 * j by omega, show 3 + 4 * j = 4 * j + 3 by omega, show (3 + 1) % 4 + 4 * j = 4 * j by omega, show (3 + 2) % 4 + 4 * j = 4 * j + 1 by omega, show (3 + 3) % 4 + 4 * j = 4 * j + 2 by omega]
    apply Nat.eq_of_testBit_eq
    intro n
    simp only [Nat.testBit_xor]
    generalize (g (4 * j)).testBit n = b0
    generalize (g (4 * j + 1)).testBit n = b1
    generalize (g (4 * j + 2)).testBit n = b2
    generalize (g (4 * j + 3)).testBit n = b3
    generalize (x2 (g (4 * j))).testBit n = c0
    generalize (x2 (g (4 * j + 1))).testBit n = c1
    generalize (x2 (g (4 * j + 2))).testBit n = c2
    generalize (x2 (g (4 * j + 3))).testBit n = c3
    revert b0 b1 b2 b3 c0 c1 c2 c3
    decide
theorem li_enc {L : Nat} {xs : Nat → Int32} {Post : Option Value → mHeap → Prop} {h : mHeap} {frk fx ft fta : Nat → Int32} {rk g : Nat → Nat} {cu tr an sg am pv tn sz : Nat} (h24 : h[24]? = some (cMod cu tr an sg am pv tn sz)) (h34 : h[34]? = some (cArr 256 fta)) (h35 : h[35]? = some (cArr 176 frk)) (h36 : h[36]? = some (cArr 16 fx)) (h37 : h[37]? = some (cArr 16 ft)) (hta : FA 256 sbN fta) (hk : FA 176 rk frk) (hx : FA 16 g fx) (hbk : Bt 176 rk) (hb : Bt 16 g) {u : Nat → Nat} {t : Nat → Int32} (ht : FA 16 u t) (hu : Bt 16 u) {q j : Nat} (hq : q < 10) (hj : j < 4) (ko : ∀ (f : Nat → Int32) (w3 w4 : Option Value), FA (4 * (j + 1)) (if q + 1 < 10 then mix1 u else u) f → mGo M_Mod_encipher L xs (1, 24) 0 0 Post 0 0 19 [some (.ref 24), some (.int (nI (q + 1))), some (.int (nI (j + 1))), w3, w4] [] (eP h t f)) : ∀ (m i : Nat) (f : Nat → Int32) (w4 : Option Value), i + m = 4 → FA (4 * j + i) (if q + 1 < 10 then mix1 u else u) f → mGo M_Mod_encipher L xs (1, 24) 0 0 Post 0 0 26 [some (.ref 24), some (.int (nI (q + 1))), some (.int (nI j)), some (.int (nI i)), w4] [] (eP h t f) := by
  intro m
  induction m with
  | zero =>
    intro i f w4 hi hf
    refine mj_iload_n d_Mod_encipher_26 rfl ?_
    refine mj_iconst d_Mod_encipher_27 (nI 4) (by decide) ?_
    refine mj_icmpgeN d_Mod_encipher_28 133 rfl (by omega) (fun c_28 => ?_) (fun c_28 => ?_)
    · refine mj_iinc d_Mod_encipher_133 rfl (by decide) (nI (j + 1)) (nI_1 j) ?_
      dsimp only [mSt1, mSt2, mKill, Nat.reduceAdd]
      refine mj_goto d_Mod_encipher_136 19 rfl ?_
      exact ko f _ _ (by rw [show 4 * (j + 1) = 4 * j + i by omega]; exact hf)
    · omega
  | succ m ih =>
    intro i f w4 hi hf
    refine mj_iload_n d_Mod_encipher_26 rfl ?_
    refine mj_iconst d_Mod_encipher_27 (nI 4) (by decide) ?_
    refine mj_icmpgeN d_Mod_encipher_28 133 rfl (by omega) (fun c_28 => ?_) (fun c_28 => ?_)
    · omega
    · refine mj_iconst d_Mod_encipher_31 (nI 2) (by decide) ?_
      refine mj_aload_n d_Mod_encipher_32 rfl ?_
      refine mj_get d_Mod_encipher_33 fd_Mod_50 (eP_get h24 (by decide) (by decide)) rfl ?_
      refine mj_iload_n d_Mod_encipher_36 rfl ?_
      refine mj_iconst d_Mod_encipher_37 (nI 4) (by decide) ?_
      refine mj_iload_n d_Mod_encipher_38 rfl ?_
      refine mj_imul d_Mod_encipher_39 ?_
      refine mj_iadd d_Mod_encipher_40 ?_
      rw [pk_mul, nI_add]
      refine mj_ialdN d_Mod_encipher_41 (eP_37 h37) (by omega) ?_
      rw [ht _ (by omega)]
      refine mj_static (d' := (0, 0)) (mc := 0) (ms := 0) (As := [_, _]) d_Mod_encipher_42 cw_Mod_times q_481 q_482 rfl rfl (mRoomB rfl) ?_
      refine s_Mod_times (by decide) (hu _ (by omega)) ?_
      refine mj_iconst d_Mod_encipher_45 (nI 3) (by decide) ?_
      refine mj_aload_n d_Mod_encipher_46 rfl ?_
      refine mj_get d_Mod_encipher_47 fd_Mod_50 (eP_get h24 (by decide) (by decide)) rfl ?_
      refine mj_iload_n d_Mod_encipher_50 rfl ?_
      refine mj_iconst d_Mod_encipher_51 (nI 1) (by decide) ?_
      refine mj_iadd d_Mod_encipher_52 ?_
      rw [nI_add]
      refine mj_iconst d_Mod_encipher_53 (nI 4) (by decide) ?_
      refine mj_irem d_Mod_encipher_54 (by decide) ?_
      rw [pk_rem (by omega) (by decide) (by decide)]
      refine mj_iconst d_Mod_encipher_55 (nI 4) (by decide) ?_
      refine mj_iload_n d_Mod_encipher_56 rfl ?_
      refine mj_imul d_Mod_encipher_57 ?_
      refine mj_iadd d_Mod_encipher_58 ?_
      rw [pk_mul, nI_add]
      refine mj_ialdN d_Mod_encipher_59 (eP_37 h37) (by omega) ?_
      rw [ht _ (by omega)]
      refine mj_static (d' := (0, 0)) (mc := 0) (ms := 0) (As := [_, _]) d_Mod_encipher_60 cw_Mod_times q_481 q_482 rfl rfl (mRoomB rfl) ?_
      refine s_Mod_times (by decide) (hu _ (by omega)) ?_
      refine mj_ixor d_Mod_encipher_63 ?_
      rw [nI_xor]
      refine mj_aload_n d_Mod_encipher_64 rfl ?_
      refine mj_get d_Mod_encipher_65 fd_Mod_50 (eP_get h24 (by decide) (by decide)) rfl ?_
      refine mj_iload_n d_Mod_encipher_68 rfl ?_
      refine mj_iconst d_Mod_encipher_69 (nI 2) (by decide) ?_
      refine mj_iadd d_Mod_encipher_70 ?_
      rw [nI_add]
      refine mj_iconst d_Mod_encipher_71 (nI 4) (by decide) ?_
      refine mj_irem d_Mod_encipher_72 (by decide) ?_
      rw [pk_rem (by omega) (by decide) (by decide)]
      refine mj_iconst d_Mod_encipher_73 (nI 4) (by decide) ?_
      refine mj_iload_n d_Mod_encipher_74 rfl ?_
      refine mj_imul d_Mod_encipher_75 ?_
      refine mj_iadd d_Mod_encipher_76 ?_
      rw [pk_mul, nI_add]
      refine mj_ialdN d_Mod_encipher_77 (eP_37 h37) (by omega) ?_
      rw [ht _ (by omega)]
      refine mj_ixor d_Mod_encipher_78 ?_
      rw [nI_xor]
      refine mj_aload_n d_Mod_encipher_79 rfl ?_
      refine mj_get d_Mod_encipher_80 fd_Mod_50 (eP_get h24 (by decide) (by decide)) rfl ?_
      refine mj_iload_n d_Mod_encipher_83 rfl ?_
      refine mj_iconst d_Mod_encipher_84 (nI 3) (by decide) ?_
      refine mj_iadd d_Mod_encipher_85 ?_
      rw [nI_add]
      refine mj_iconst d_Mod_encipher_86 (nI 4) (by decide) ?_
      refine mj_irem d_Mod_encipher_87 (by decide) ?_
      rw [pk_rem (by omega) (by decide) (by decide)]
      refine mj_iconst d_Mod_encipher_88 (nI 4) (by decide) ?_
      refine mj_iload_n d_Mod_encipher_89 rfl ?_
      refine mj_imul d_Mod_encipher_90 ?_
      refine mj_iadd d_Mod_encipher_91 ?_
      rw [pk_mul, nI_add]
      refine mj_ialdN d_Mod_encipher_92 (eP_37 h37) (by omega) ?_
      rw [ht _ (by omega)]
      refine mj_ixor d_Mod_encipher_93 ?_
      rw [nI_xor, mixM hu (by omega) (by omega)]
      refine mj_istore d_Mod_encipher_94 (by decide) ?_
      dsimp only [mSt1, mSt2, mKill, Nat.reduceAdd]
      refine mj_aload_n d_Mod_encipher_96 rfl ?_
      refine mj_get d_Mod_encipher_97 fd_Mod_47 (eP_get h24 (by decide) (by decide)) rfl ?_
      refine mj_iload_n d_Mod_encipher_100 rfl ?_
      refine mj_iconst d_Mod_encipher_101 (nI 4) (by decide) ?_
      refine mj_iload_n d_Mod_encipher_102 rfl ?_
      refine mj_imul d_Mod_encipher_103 ?_
      refine mj_iadd d_Mod_encipher_104 ?_
      rw [pk_mul, nI_add, Nat.add_comm i (4 * j)]
      refine mj_iload_n d_Mod_encipher_105 rfl ?_
      refine mj_bipush d_Mod_encipher_106 (nI 10) (by decide) ?_
      refine mj_icmpgeN d_Mod_encipher_108 116 rfl (by omega) (fun c_108 => ?_) (fun c_108 => ?_)
      · refine mj_aload_n d_Mod_encipher_116 rfl ?_
        refine mj_get d_Mod_encipher_117 fd_Mod_50 (eP_get h24 (by decide) (by decide)) rfl ?_
        refine mj_iload_n d_Mod_encipher_120 rfl ?_
        refine mj_iconst d_Mod_encipher_121 (nI 4) (by decide) ?_
        refine mj_iload_n d_Mod_encipher_122 rfl ?_
        refine mj_imul d_Mod_encipher_123 ?_
        refine mj_iadd d_Mod_encipher_124 ?_
        rw [pk_mul, nI_add, Nat.add_comm i (4 * j)]
        refine mj_ialdN d_Mod_encipher_125 (eP_37 h37) (by omega) ?_
        rw [ht _ (by omega)]
        refine mj_iastN d_Mod_encipher_126 (eP_36 h36) (by omega) ?_
        rw [eP_s36]
        refine mj_iinc d_Mod_encipher_127 rfl (by decide) (nI (i + 1)) (nI_1 i) ?_
        dsimp only [mSt1, mSt2, mKill, Nat.reduceAdd]
        refine mj_goto d_Mod_encipher_130 26 rfl ?_
        refine ih (i + 1) _ _ (by omega) ?_
        have e := FA_s hf
        first
          | (rw [if_pos (by omega)] at e ⊢; exact e)
          | (rw [if_neg (by omega)] at e ⊢; exact e)
      · refine mj_iload d_Mod_encipher_111 rfl ?_
        refine mj_goto d_Mod_encipher_113 126 rfl ?_
        refine mj_iastN d_Mod_encipher_126 (eP_36 h36) (by omega) ?_
        rw [eP_s36]
        refine mj_iinc d_Mod_encipher_127 rfl (by decide) (nI (i + 1)) (nI_1 i) ?_
        dsimp only [mSt1, mSt2, mKill, Nat.reduceAdd]
        refine mj_goto d_Mod_encipher_130 26 rfl ?_
        refine ih (i + 1) _ _ (by omega) ?_
        have e := FA_s hf
        first
          | (rw [if_pos (by omega)] at e ⊢; exact e)
          | (rw [if_neg (by omega)] at e ⊢; exact e)
theorem lj_enc {L : Nat} {xs : Nat → Int32} {Post : Option Value → mHeap → Prop} {h : mHeap} {frk fx ft fta : Nat → Int32} {rk g : Nat → Nat} {cu tr an sg am pv tn sz : Nat} (h24 : h[24]? = some (cMod cu tr an sg am pv tn sz)) (h34 : h[34]? = some (cArr 256 fta)) (h35 : h[35]? = some (cArr 176 frk)) (h36 : h[36]? = some (cArr 16 fx)) (h37 : h[37]? = some (cArr 16 ft)) (hta : FA 256 sbN fta) (hk : FA 176 rk frk) (hx : FA 16 g fx) (hbk : Bt 176 rk) (hb : Bt 16 g) {u : Nat → Nat} {t : Nat → Int32} (ht : FA 16 u t) (hu : Bt 16 u) {q : Nat} (hq : q < 10) (ko : ∀ (f : Nat → Int32) (w2 w3 w4 : Option Value), FA 16 (if q + 1 < 10 then mix1 u else u) f → mGo M_Mod_encipher L xs (1, 24) 0 0 Post 0 0 139 [some (.ref 24), some (.int (nI (q + 1))), w2, w3, w4] [] (eP h t f)) : ∀ (m j : Nat) (f : Nat → Int32) (w3 w4 : Option Value), j + m = 4 → FA (4 * j) (if q + 1 < 10 then mix1 u else u) f → mGo M_Mod_encipher L xs (1, 24) 0 0 Post 0 0 19 [some (.ref 24), some (.int (nI (q + 1))), some (.int (nI j)), w3, w4] [] (eP h t f) := by
  intro m
  induction m with
  | zero =>
    intro j f w3 w4 hj hf
    refine mj_iload_n d_Mod_encipher_19 rfl ?_
    refine mj_iconst d_Mod_encipher_20 (nI 4) (by decide) ?_
    refine mj_icmpgeN d_Mod_encipher_21 139 rfl (by omega) (fun c_21 => ?_) (fun c_21 => ?_)
    · exact ko f _ _ _ (FA_le hf (by omega))
    · omega
  | succ m ih =>
    intro j f w3 w4 hj hf
    refine mj_iload_n d_Mod_encipher_19 rfl ?_
    refine mj_iconst d_Mod_encipher_20 (nI 4) (by decide) ?_
    refine mj_icmpgeN d_Mod_encipher_21 139 rfl (by omega) (fun c_21 => ?_) (fun c_21 => ?_)
    · omega
    · refine mj_iconst d_Mod_encipher_24 (nI 0) (by decide) ?_
      refine mj_istore_n d_Mod_encipher_25 (by decide) ?_
      dsimp only [mSt1, mSt2, mKill, Nat.reduceAdd]
      exact li_enc h24 h34 h35 h36 h37 hta hk hx hbk hb ht hu hq (by omega) (fun f w3 w4 hf => ih (j + 1) f w3 w4 (by omega) hf) 4 0 f _ (by omega) hf
theorem lp_encM {L : Nat} {xs : Nat → Int32} {Post : Option Value → mHeap → Prop} {h : mHeap} {frk fx ft fta : Nat → Int32} {rk g : Nat → Nat} {cu tr an sg am pv tn sz : Nat} (h24 : h[24]? = some (cMod cu tr an sg am pv tn sz)) (h34 : h[34]? = some (cArr 256 fta)) (h35 : h[35]? = some (cArr 176 frk)) (h36 : h[36]? = some (cArr 16 fx)) (h37 : h[37]? = some (cArr 16 ft)) (hta : FA 256 sbN fta) (hk : FA 176 rk frk) (hx : FA 16 g fx) (hbk : Bt 176 rk) (hb : Bt 16 g) (kP : ∀ t f, FA 16 (enc rk g) f → Post none (eP h t f)) : ∀ (m q : Nat) (t f : Nat → Int32) (w2 w3 w4 : Option Value), q + m = 10 → FA 16 (encS rk g q) f → mGo M_Mod_encipher L xs (1, 24) 0 0 Post 0 0 7 [some (.ref 24), some (.int (nI (q + 1))), w2, w3, w4] [] (eP h t f) := by
  intro m
  induction m with
  | zero =>
    intro q t f w2 w3 w4 hq hf
    refine mj_iload_n d_Mod_encipher_7 rfl ?_
    refine mj_bipush d_Mod_encipher_8 (nI 10) (by decide) ?_
    refine mj_icmpgtN d_Mod_encipher_10 150 rfl (by omega) (fun c_10 => ?_) (fun c_10 => ?_)
    · refine mj_vret d_Mod_encipher_150 rfl (Nat.le_refl _) (Nat.le_refl _) ?_
      rw [show q = 10 by omega] at hf
      exact kP t f hf
    · omega
  | succ m ih =>
    intro q t f w2 w3 w4 hq hf
    refine mj_iload_n d_Mod_encipher_7 rfl ?_
    refine mj_bipush d_Mod_encipher_8 (nI 10) (by decide) ?_
    refine mj_icmpgtN d_Mod_encipher_10 150 rfl (by omega) (fun c_10 => ?_) (fun c_10 => ?_)
    · omega
    · refine mj_aload_n d_Mod_encipher_13 rfl ?_
      refine mj_virtual (d' := (0, 0)) (mc := 0) (ms := 0) (As := []) d_Mod_encipher_14 cw_Mod_mixRows q_671 q_673 qs_Mod_mixRows (ci := 6) rfl (eP_get h24 (by decide) (by decide)) rfl rfl (mRoomB rfl) ?_
      refine s_Mod_mixRows (eP_get h24 (by decide) (by decide)) (eP_get h34 (by decide) (by decide)) (eP_36 h36) (eP_37 h37) hta hf (encS_lt hbk hb q (by omega)) (fun t1 ht1 => ?_)
      rw [eP_s37]
      refine mj_iconst d_Mod_encipher_17 (nI 0) (by decide) ?_
      refine mj_istore_n d_Mod_encipher_18 (by decide) ?_
      dsimp only [mSt1, mSt2, mKill, Nat.reduceAdd]
      refine lj_enc h24 h34 h35 h36 h37 hta hk hx hbk hb ht1 (sub1_lt (encS_lt hbk hb q (by omega))) (by omega) (fun f1 w2 w3 w4 hf1 => ?_) 4 0 f _ _ (by omega) (fun j hj => by omega)
      refine mj_aload_n d_Mod_encipher_139 rfl ?_
      refine mj_iload_n d_Mod_encipher_140 rfl ?_
      refine mj_virtual (d' := (0, 0)) (mc := 0) (ms := 0) (As := [_]) d_Mod_encipher_141 cw_Mod_combineKey q_667 q_669 qs_Mod_combineKey (ci := 6) rfl (eP_get h24 (by decide) (by decide)) rfl rfl (mRoomB rfl) ?_
      refine s_Mod_combineKey (eP_get h24 (by decide) (by decide)) (eP_get h35 (by decide) (by decide)) (eP_36 h36) hk hf1 (by omega) (fun f3 hf3 => ?_)
      rw [eP_s36]
      refine mj_iinc d_Mod_encipher_144 rfl (by decide) (nI (q + 1 + 1)) (nI_1 (q + 1)) ?_
      dsimp only [mSt1, mSt2, mKill, Nat.reduceAdd]
      refine mj_goto d_Mod_encipher_147 7 rfl ?_
      exact ih (q + 1) _ _ _ _ _ (by omega) (by rw [encS]; exact hf3)
theorem s_Mod_encipher {L : Nat} {xs : Nat → Int32} {Post : Option Value → mHeap → Prop} {h : mHeap} {frk fx ft fta : Nat → Int32} {rk g : Nat → Nat} {cu tr an sg am pv tn sz : Nat} (h24 : h[24]? = some (cMod cu tr an sg am pv tn sz)) (h34 : h[34]? = some (cArr 256 fta)) (h35 : h[35]? = some (cArr 176 frk)) (h36 : h[36]? = some (cArr 16 fx)) (h37 : h[37]? = some (cArr 16 ft)) (hta : FA 256 sbN fta) (hk : FA 176 rk frk) (hx : FA 16 g fx) (hbk : Bt 176 rk) (hb : Bt 16 g) (kP : ∀ t f, FA 16 (enc rk g) f → Post none (eP h t f)) : mMet M_Mod_encipher L xs (1, 24) 0 0 [.ref 24] h Post := by
  refine mMet_of rfl (Nat.le_of_ble_eq_true rfl) ?_
  refine mj_aload_n d_Mod_encipher_0 rfl ?_
  refine mj_iconst d_Mod_encipher_1 (nI 0) (by decide) ?_
  refine mj_virtual (d' := (0, 0)) (mc := 0) (ms := 0) (As := [_]) d_Mod_encipher_2 cw_Mod_combineKey q_667 q_669 qs_Mod_combineKey (ci := 6) rfl h24 rfl rfl (mRoomB rfl) ?_
  refine s_Mod_combineKey h24 h35 h36 hk hx (by omega) (fun f hf => ?_)
  rw [eP_0 h37]
  refine mj_iconst d_Mod_encipher_5 (nI 1) (by decide) ?_
  refine mj_istore_n d_Mod_encipher_6 (by decide) ?_
  dsimp only [mSt1, mSt2, mKill, Nat.reduceAdd]
  exact lp_encM h24 h34 h35 h36 h37 hta hk hx hbk hb kP 10 0 ft f _ _ _ (by omega) hf
