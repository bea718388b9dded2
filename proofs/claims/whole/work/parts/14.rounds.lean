abbrev cSea : mCell := .inr (3, [.ref 17, .ref 18, .ref 19, .ref 20, .ref 21, .ref 22])
def sP (h : mHeap) (t f : Nat → Int32) : mHeap := (h.set 21 (cArr 16 t)).set 20 (cArr 16 f)
theorem sP_get {h : mHeap} {t f : Nat → Int32} {k : Nat} {x : mCell} (hk : h[k]? = some x) (h1 : 20 ≠ k) (h2 : 21 ≠ k) : (sP h t f)[k]? = some x := gne (gne hk h2) h1
theorem sP_20 {h : mHeap} {t f : Nat → Int32} {x : mCell} (hk : h[20]? = some x) : (sP h t f)[20]? = some (cArr 16 f) := gself (gne (y := cArr 16 t) hk (by decide))
theorem sP_21 {h : mHeap} {t f : Nat → Int32} {x : mCell} (hk : h[21]? = some x) : (sP h t f)[21]? = some (cArr 16 t) := gne (gself (y := cArr 16 t) hk) (by decide)
theorem sP_s20 {h : mHeap} {t f f' : Nat → Int32} : (sP h t f).set 20 (cArr 16 f') = sP h t f' := by unfold sP; rw [List.set_set]
theorem sP_sP {h : mHeap} {t f t' f' : Nat → Int32} : sP (sP h t f) t' f' = sP h t' f' := by
  unfold sP
  rw [List.set_comm _ _ (show (20 : Nat) ≠ 21 by decide), List.set_set, List.set_set]
theorem sP_0 {h : mHeap} {t f : Nat → Int32} (hk : h[21]? = some (cArr 16 t)) : h.set 20 (cArr 16 f) = sP h t f := by unfold sP; rw [set_same hk]
theorem lp_combine {L : Nat} {xs : Nat → Int32} {Post : Option Value → mHeap → Prop} {h : mHeap} {frk fx : Nat → Int32} {rk g : Nat → Nat} (h16 : h[16]? = some cSea) (h17 : h[17]? = some (cArr 176 frk)) (h20 : h[20]? = some (cArr 16 fx)) (hk : FA 176 rk frk) (hx : FA 16 g fx) {r : Nat} (hr : r ≤ 10) (kP : ∀ f', FA 16 (addk rk r g) f' → Post none (h.set 20 (cArr 16 f'))) : ∀ (m i : Nat) (f : Nat → Int32), i + m = 16 → FA 16 (pu i (addk rk r g) g) f → mGo M_Sea_combineRoundKey L xs (0, 0) 0 0 Post 0 0 2 [some (.ref 16), some (.int (nI r)), some (.int (nI i))] [] (h.set 20 (cArr 16 f)) := by
  intro m
  induction m with
  | zero =>
    intro i f hi hf
    refine mj_iload_n d_Sea_combineRoundKey_2 rfl ?_
    refine mj_bipush d_Sea_combineRoundKey_3 (nI 16) (by decide) ?_
    refine mj_icmpgeN d_Sea_combineRoundKey_5 34 rfl (by omega) (fun c_5 => ?_) (fun c_5 => ?_)
    · refine mj_vret d_Sea_combineRoundKey_34 rfl (Nat.le_refl _) (Nat.le_refl _) ?_
      exact kP f (pu_e hf (by omega))
    · omega
  | succ m ih =>
    intro i f hi hf
    refine mj_iload_n d_Sea_combineRoundKey_2 rfl ?_
    refine mj_bipush d_Sea_combineRoundKey_3 (nI 16) (by decide) ?_
    refine mj_icmpgeN d_Sea_combineRoundKey_5 34 rfl (by omega) (fun c_5 => ?_) (fun c_5 => ?_)
    · omega
    · refine mj_aload_n d_Sea_combineRoundKey_8 rfl ?_
      refine mj_get d_Sea_combineRoundKey_9 fd_Sea_21 (gne h16 (by decide)) rfl ?_
      refine mj_iload_n d_Sea_combineRoundKey_12 rfl ?_
      refine mj_dup2 d_Sea_combineRoundKey_13 rfl rfl ?_
      refine mj_ialdN d_Sea_combineRoundKey_14 (gself h20) (by omega) ?_
      rw [hf _ (by omega), pu_hi (Nat.le_refl _)]
      refine mj_aload_n d_Sea_combineRoundKey_15 rfl ?_
      refine mj_get d_Sea_combineRoundKey_16 fd_Sea_11 (gne h16 (by decide)) rfl ?_
      refine mj_iload_n d_Sea_combineRoundKey_19 rfl ?_
      refine mj_bipush d_Sea_combineRoundKey_20 (nI 16) (by decide) ?_
      refine mj_imul d_Sea_combineRoundKey_22 ?_
      refine mj_iload_n d_Sea_combineRoundKey_23 rfl ?_
      refine mj_iadd d_Sea_combineRoundKey_24 ?_
      rw [pk_mul, nI_add, Nat.mul_comm r 16]
      refine mj_ialdN d_Sea_combineRoundKey_25 (gne h17 (by decide)) (by omega) ?_
      rw [hk _ (by omega)]
      refine mj_ixor d_Sea_combineRoundKey_26 ?_
      rw [nI_xor]
      refine mj_iastN d_Sea_combineRoundKey_27 (gself h20) (by omega) ?_
      rw [List.set_set]
      refine mj_iinc d_Sea_combineRoundKey_28 rfl (by decide) (nI (i + 1)) (nI_1 i) ?_
      dsimp only [mSt1, mSt2, mKill, Nat.reduceAdd]
      refine mj_goto d_Sea_combineRoundKey_31 2 rfl ?_
      exact ih (i + 1) _ (by omega) (pu_s hf)
theorem s_Sea_combineRoundKey {L : Nat} {xs : Nat → Int32} {Post : Option Value → mHeap → Prop} {h : mHeap} {frk fx : Nat → Int32} {rk g : Nat → Nat} (h16 : h[16]? = some cSea) (h17 : h[17]? = some (cArr 176 frk)) (h20 : h[20]? = some (cArr 16 fx)) (hk : FA 176 rk frk) (hx : FA 16 g fx) {r : Nat} (hr : r ≤ 10) (kP : ∀ f', FA 16 (addk rk r g) f' → Post none (h.set 20 (cArr 16 f'))) : mMet M_Sea_combineRoundKey L xs (0, 0) 0 0 [.ref 16, .int (nI r)] h Post := by
  refine mMet_of rfl (Nat.le_of_ble_eq_true rfl) ?_
  refine mj_iconst d_Sea_combineRoundKey_0 (nI 0) (by decide) ?_
  refine mj_istore_n d_Sea_combineRoundKey_1 (by decide) ?_
  dsimp only [mSt1, mSt2, mKill, Nat.reduceAdd]
  have e := lp_combine h16 h17 h20 hk hx hr kP (L := L) (xs := xs) 16 0 fx (by omega) (pu_0 hx)
  rw [set_same h20] at e
  exact e
theorem sub1_at {g : Nat → Nat} {i j : Nat} (hi : i < 4) : sub1 g (4 * j + i) = sbN (g (i + 4 * ((j + i) % 4))) := by
  unfold sub1
  rw [show (4 * j + i) % 4 = i by omega, show (4 * j + i) / 4 = j by omega]
theorem li_subst {L : Nat} {xs : Nat → Int32} {Post : Option Value → mHeap → Prop} {h : mHeap} {fx ft : Nat → Int32} {g : Nat → Nat} (h16 : h[16]? = some cSea) (h20 : h[20]? = some (cArr 16 fx)) (h21 : h[21]? = some (cArr 16 ft)) (hx : FA 16 g fx) (hb : Bt 16 g) {j : Nat} (hj : j < 4) (ko : ∀ (f : Nat → Int32) (w : Int32), FA (4 * (j + 1)) (sub1 g) f → mGo M_Sea_substituteAndTurn L xs (1, 40) 0 0 Post 0 0 2 [some (.ref 16), some (.int (nI (j + 1))), some (.int w)] [] (h.set 21 (cArr 16 f))) : ∀ (m i : Nat) (f : Nat → Int32), i + m = 4 → FA (4 * j + i) (sub1 g) f → mGo M_Sea_substituteAndTurn L xs (1, 40) 0 0 Post 0 0 9 [some (.ref 16), some (.int (nI j)), some (.int (nI i))] [] (h.set 21 (cArr 16 f)) := by
  intro m
  induction m with
  | zero =>
    intro i f hi hf
    refine mj_iload_n d_Sea_substituteAndTurn_9 rfl ?_
    refine mj_iconst d_Sea_substituteAndTurn_10 (nI 4) (by decide) ?_
    refine mj_icmpgeN d_Sea_substituteAndTurn_11 52 rfl (by omega) (fun c_11 => ?_) (fun c_11 => ?_)
    · refine mj_iinc d_Sea_substituteAndTurn_52 rfl (by decide) (nI (j + 1)) (nI_1 j) ?_
      dsimp only [mSt1, mSt2, mKill, Nat.reduceAdd]
      refine mj_goto d_Sea_substituteAndTurn_55 2 rfl ?_
      exact ko f (nI i) (by rw [show 4 * (j + 1) = 4 * j + i by omega]; exact hf)
    · omega
  | succ m ih =>
    intro i f hi hf
    refine mj_iload_n d_Sea_substituteAndTurn_9 rfl ?_
    refine mj_iconst d_Sea_substituteAndTurn_10 (nI 4) (by decide) ?_
    refine mj_icmpgeN d_Sea_substituteAndTurn_11 52 rfl (by omega) (fun c_11 => ?_) (fun c_11 => ?_)
    · omega
    · refine mj_aload_n d_Sea_substituteAndTurn_14 rfl ?_
      refine mj_get d_Sea_substituteAndTurn_15 fd_Sea_24 (gne h16 (by decide)) rfl ?_
      refine mj_iload_n d_Sea_substituteAndTurn_18 rfl ?_
      refine mj_iconst d_Sea_substituteAndTurn_19 (nI 4) (by decide) ?_
      refine mj_iload_n d_Sea_substituteAndTurn_20 rfl ?_
      refine mj_imul d_Sea_substituteAndTurn_21 ?_
      refine mj_iadd d_Sea_substituteAndTurn_22 ?_
      rw [pk_mul, nI_add, Nat.add_comm i (4 * j)]
      refine mj_gets (k := 0) d_Sea_substituteAndTurn_23 rfl q_82 ?_
      refine mj_aload_n d_Sea_substituteAndTurn_26 rfl ?_
      refine mj_get d_Sea_substituteAndTurn_27 fd_Sea_21 (gne h16 (by decide)) rfl ?_
      refine mj_iload_n d_Sea_substituteAndTurn_30 rfl ?_
      refine mj_iconst d_Sea_substituteAndTurn_31 (nI 4) (by decide) ?_
      refine mj_iload_n d_Sea_substituteAndTurn_32 rfl ?_
      refine mj_iload_n d_Sea_substituteAndTurn_33 rfl ?_
      refine mj_iadd d_Sea_substituteAndTurn_34 ?_
      rw [nI_add]
      refine mj_iconst d_Sea_substituteAndTurn_35 (nI 4) (by decide) ?_
      refine mj_irem d_Sea_substituteAndTurn_36 (by decide) ?_
      rw [pk_rem (by omega) (by decide) (by decide)]
      refine mj_imul d_Sea_substituteAndTurn_37 ?_
      refine mj_iadd d_Sea_substituteAndTurn_38 ?_
      rw [pk_mul, nI_add]
      refine mj_ialdN d_Sea_substituteAndTurn_39 (gne h20 (by decide)) (by omega) ?_
      rw [hx _ (by omega)]
      refine mj_sipush d_Sea_substituteAndTurn_40 (nI 255) (by decide) ?_
      refine mj_iand d_Sea_substituteAndTurn_43 ?_
      rw [nI_and255 (by have := hb (i + 4 * ((j + i) % 4)) (by omega); omega), Nat.mod_eq_of_lt (hb _ (by omega))]
      refine mj_oaldN d_Sea_substituteAndTurn_44 rfl (by have := hb (i + 4 * ((j + i) % 4)) (by omega); omega) ?_
      rw [sb_ok _ (hb _ (by omega)), ← sub1_at (by omega)]
      refine mj_iastN d_Sea_substituteAndTurn_45 (gself h21) (by omega) ?_
      rw [List.set_set]
      refine mj_iinc d_Sea_substituteAndTurn_46 rfl (by decide) (nI (i + 1)) (nI_1 i) ?_
      dsimp only [mSt1, mSt2, mKill, Nat.reduceAdd]
      refine mj_goto d_Sea_substituteAndTurn_49 9 rfl ?_
      exact ih (i + 1) _ (by omega) (FA_s hf)
theorem lo_subst {L : Nat} {xs : Nat → Int32} {Post : Option Value → mHeap → Prop} {h : mHeap} {fx ft : Nat → Int32} {g : Nat → Nat} (h16 : h[16]? = some cSea) (h20 : h[20]? = some (cArr 16 fx)) (h21 : h[21]? = some (cArr 16 ft)) (hx : FA 16 g fx) (hb : Bt 16 g) (kP : ∀ t f, FA 16 (sub1 g) f → Post none (sP h t f)) : ∀ (m j : Nat) (f : Nat → Int32) (w : Option Value), j + m = 4 → FA (4 * j) (sub1 g) f → mGo M_Sea_substituteAndTurn L xs (1, 40) 0 0 Post 0 0 2 [some (.ref 16), some (.int (nI j)), w] [] (h.set 21 (cArr 16 f)) := by
  intro m
  induction m with
  | zero =>
    intro j f w hj hf
    refine mj_iload_n d_Sea_substituteAndTurn_2 rfl ?_
    refine mj_iconst d_Sea_substituteAndTurn_3 (nI 4) (by decide) ?_
    refine mj_icmpgeN d_Sea_substituteAndTurn_4 58 rfl (by omega) (fun c_4 => ?_) (fun c_4 => ?_)
    · refine mj_aload_n d_Sea_substituteAndTurn_58 rfl ?_
      refine mj_get d_Sea_substituteAndTurn_59 fd_Sea_24 (gne h16 (by decide)) rfl ?_
      refine mj_iconst d_Sea_substituteAndTurn_62 (nI 0) (by decide) ?_
      refine mj_aload_n d_Sea_substituteAndTurn_63 rfl ?_
      refine mj_get d_Sea_substituteAndTurn_64 fd_Sea_21 (gne h16 (by decide)) rfl ?_
      refine mj_iconst d_Sea_substituteAndTurn_67 (nI 0) (by decide) ?_
      refine mj_bipush d_Sea_substituteAndTurn_68 (nI 16) (by decide) ?_
      refine mj_copy d_Sea_substituteAndTurn_70 q_102 q_104 q_103 q_8 (gself h21) (gne h20 (by decide)) (by decide) ⟨by decide, Nat.le_of_ble_eq_true rfl⟩ ?_
      refine mj_vret d_Sea_substituteAndTurn_73 rfl (Nat.le_refl _) (Nat.le_refl _) ?_
      refine kP f _ (fun k hk => ?_)
      rw [pk_cpy_in (by omega) (by omega)]
      simp only [Nat.sub_zero, Nat.zero_add]
      exact hf k (by omega)
    · omega
  | succ m ih =>
    intro j f w hj hf
    refine mj_iload_n d_Sea_substituteAndTurn_2 rfl ?_
    refine mj_iconst d_Sea_substituteAndTurn_3 (nI 4) (by decide) ?_
    refine mj_icmpgeN d_Sea_substituteAndTurn_4 58 rfl (by omega) (fun c_4 => ?_) (fun c_4 => ?_)
    · omega
    · refine mj_iconst d_Sea_substituteAndTurn_7 (nI 0) (by decide) ?_
      refine mj_istore_n d_Sea_substituteAndTurn_8 (by decide) ?_
      dsimp only [mSt1, mSt2, mKill, Nat.reduceAdd]
      exact li_subst h16 h20 h21 hx hb (by omega) (fun f w hf => ih (j + 1) f (some (.int w)) (by omega) hf) 4 0 f (by omega) hf
theorem s_Sea_substituteAndTurn {L : Nat} {xs : Nat → Int32} {Post : Option Value → mHeap → Prop} {h : mHeap} {fx ft : Nat → Int32} {g : Nat → Nat} (h16 : h[16]? = some cSea) (h20 : h[20]? = some (cArr 16 fx)) (h21 : h[21]? = some (cArr 16 ft)) (hx : FA 16 g fx) (hb : Bt 16 g) (kP : ∀ t f, FA 16 (sub1 g) f → Post none (sP h t f)) : mMet M_Sea_substituteAndTurn L xs (1, 40) 0 0 [.ref 16] h Post := by
  refine mMet_of rfl (Nat.le_of_ble_eq_true rfl) ?_
  refine mj_iconst d_Sea_substituteAndTurn_0 (nI 0) (by decide) ?_
  refine mj_istore_n d_Sea_substituteAndTurn_1 (by decide) ?_
  dsimp only [mSt1, mSt2, mKill, Nat.reduceAdd]
  have e := lo_subst h16 h20 h21 hx hb kP (L := L) (xs := xs) 4 0 ft none (by omega) (fun j hj => by omega)
  rw [set_same h21] at e
  exact e
