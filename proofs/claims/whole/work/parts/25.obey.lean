def mkC (t r li nm pd : List Nat) (tf rf lf nf pf ef fb fs fc frk fw ff fx ft : Nat → Int32) (co cu tr an sg am pv : Nat) : mHeap :=
  [.inr (5, [.ref 1, .ref 3, .ref 5, .ref 7, .ref 9]), cRow 2 t, cArr 40 tf, cRow 4 r, cArr 32 rf, cRow 6 li, cArr 32 lf, .inr (1, [.ref 8]), cArr 32 ef, cCrd co cu tr an sg am pv, cRow 11 nm, cArr 7 nf, cFil, cArr 360 fb, cArr 12 fs, cArr 4 fc, cSea, cArr 176 frk, cArr 16 fw, cArr 16 ff, cArr 16 fx, cArr 16 ft, cRow 23 pd, cArr 16 pf]
abbrev Bb (l : List Nat) : Prop := ∀ b ∈ l, b < 256
/-- what always holds of the card's state -/
def AI (t r nm : List Nat) (cnt : Nat → Nat) (rc : Nat → List Nat) (rk : Nat → Nat) (co cu tr an sg am pv : Nat) : Prop :=
  (Bb t ∧ t.length ≤ 40) ∧ (Bb r ∧ r.length ≤ 32) ∧ (Bb nm ∧ nm.length = 7) ∧ (∀ f, f < 4 → cnt f ≤ 3 ∧ ∀ j, j < cnt f → 1 ≤ (rc (3 * f + j)).length ∧ (rc (3 * f + j)).length ≤ 30 ∧ Bb (rc (3 * f + j))) ∧ Bt 176 rk ∧ co ≤ 9999 ∧ cu < 65536 ∧ tr ≤ 3 ∧ an ≤ 2 ∧ sg ≤ 4 ∧ am < 2 ^ 48 ∧ pv < 2
/-- how the class holds it -/
def CR (t r li nm pd : List Nat) (tf rf lf nf pf fb fs fc frk fw ff : Nat → Int32) (cnt : Nat → Nat) (rc : Nat → List Nat) (rk : Nat → Nat) : Prop :=
  Rf t tf ∧ Rf r rf ∧ (Rf li lf ∧ li.length ≤ 32) ∧ Rf nm nf ∧ (Rf pd pf ∧ pd.length ≤ 16) ∧ FR cnt rc fb fs fc ∧ FA 176 rk frk ∧ FA 16 (dbl (enc rk zero)) fw ∧ FA 16 (dbl (dbl (enc rk zero))) ff
theorem Bb_app {a b : List Nat} (ha : Bb a) (hb : Bb b) : Bb (a ++ b) := fun x hx => (List.mem_append.mp hx).elim (ha x) (hb x)
theorem Bb_cons {a : Nat} {b : List Nat} (ha : a < 256) (hb : Bb b) : Bb (a :: b) := fun x hx => (List.mem_cons.mp hx).elim (fun e => e ▸ ha) (hb x)
theorem Bb_nil : Bb [] := fun _ h => by cases h
theorem entR_Bb {cnt : Nat → Nat} (hc : ∀ f, f < 4 → cnt f ≤ 3) : ∀ (n f : Nat), f + n ≤ 4 → Bb (entR cnt f n)
  | 0, _, _ => Bb_nil
  | n + 1, f, h => by
    rw [entR]
    refine Bb_app ?_ (entR_Bb hc n (f + 1) (by omega))
    split
    · have := hc f (by omega)
      exact Bb_cons (by omega) (Bb_cons (by omega) (Bb_cons (by omega) (Bb_cons (by omega) Bb_nil)))
    · exact Bb_nil
theorem sl8_Bb {s : Nat → Nat} (h : Bt 16 s) : Bb (sl8 s) := by
  intro x hx
  obtain ⟨i, hi, rfl⟩ := List.mem_map.mp hx
  exact h i (by have := List.mem_range.mp hi; omega)
theorem selR_Bb {nm : List Nat} (h : Bb nm) : Bb (selR nm) := by
  refine Bb_app (a := [111, 23, 132, 7]) (by decide) (Bb_app h ?_)
  decide
theorem faultN_lt (t : List Nat) (sg cu : Nat) : faultN t sg cu < 65536 := by
  unfold faultN
  repeat' split
  all_goals decide
theorem send_inv {t r nm : List Nat} {cnt : Nat → Nat} {rc : Nat → List Nat} {rk : Nat → Nat} {co cu tr an sg am pv : Nat} (hA : AI t r nm cnt rc rk co cu tr an sg am pv) : AI [] (sendF t nm cnt rc rk co cu tr an sg am pv).2.1 nm cnt rc rk co (sendF t nm cnt rc rk co cu tr an sg am pv).2.2.1 (sendF t nm cnt rc rk co cu tr an sg am pv).2.2.2.1 (sendF t nm cnt rc rk co cu tr an sg am pv).2.2.2.2.1 (sendF t nm cnt rc rk co cu tr an sg am pv).2.2.2.2.2.1 (sendF t nm cnt rc rk co cu tr an sg am pv).2.2.2.2.2.2.1 (sendF t nm cnt rc rk co cu tr an sg am pv).2.2.2.2.2.2.2 ∧ (sendF t nm cnt rc rk co cu tr an sg am pv).1 < 65536 := by
  obtain ⟨h1, h2, h3, h4, h5, h6, h7, h8, h9, h10, h11, h12⟩ := hA
  have e0 : Bb ([] : List Nat) ∧ ([] : List Nat).length ≤ 32 := ⟨Bb_nil, by decide⟩
  have hf := faultN_lt t sg cu
  have bad : ∀ (st r' cu' tr' an' sg' am' pv' : _), (Bb r' ∧ r'.length ≤ 32) → cu' < 65536 → tr' ≤ 3 → an' ≤ 2 → sg' ≤ 4 → am' < 2 ^ 48 → pv' < 2 → st < 65536 → AI [] ((st, r', cu', tr', an', sg', am', pv') : R8).2.1 nm cnt rc rk co ((st, r', cu', tr', an', sg', am', pv') : R8).2.2.1 ((st, r', cu', tr', an', sg', am', pv') : R8).2.2.2.1 ((st, r', cu', tr', an', sg', am', pv') : R8).2.2.2.2.1 ((st, r', cu', tr', an', sg', am', pv') : R8).2.2.2.2.2.1 ((st, r', cu', tr', an', sg', am', pv') : R8).2.2.2.2.2.2.1 ((st, r', cu', tr', an', sg', am', pv') : R8).2.2.2.2.2.2.2 ∧ ((st, r', cu', tr', an', sg', am', pv') : R8).1 < 65536 :=
    fun st r' cu' tr' an' sg' am' pv' q1 q2 q3 q4 q5 q6 q7 q8 => ⟨⟨⟨Bb_nil, Nat.zero_le _⟩, q1, h3, h4, h5, h6, q2, q3, q4, q5, q6, q7⟩, q8⟩
  unfold sendF
  split
  · exact bad _ _ _ _ _ _ _ _ e0 h7 h8 h9 h10 h11 h12 hf
  next hok =>
  obtain ⟨w1, w2, w3, w4, w5⟩ := fault_ok (Decidable.not_not.mp hok)
  split
  · split
    · exact bad _ _ _ _ _ _ _ _ ⟨selR_Bb h3.1, by simp [selR, h3.2]⟩ h7 h8 h9 (by decide) h11 h12 (by decide)
    · exact bad _ _ _ _ _ _ _ _ e0 h7 h8 h9 h10 h11 h12 (by decide)
  next c1 =>
  split
  · next c2 =>
    split
    · have hl := entR_len cnt 4 0
      exact bad _ _ _ _ _ _ _ _ ⟨Bb_app (Bb_cons (by decide) (Bb_cons (by omega) (Bb_cons (by decide) (Bb_cons (by decide) Bb_nil)))) (entR_Bb (fun f hf => (h4 f hf).1) 4 0 (by decide)), by simp [rdyR]; omega⟩ (by omega) h8 h9 (by decide) (amtN_lt h1.1 (by decide)) (by decide) (by decide)
    · exact bad _ _ _ _ _ _ _ _ e0 h7 h8 h9 h10 h11 h12 (by decide)
  split
  · split
    · exact bad _ _ _ _ _ _ _ _ e0 h7 h8 h9 h10 h11 h12 (by decide)
    · split
      · exact bad _ _ _ _ _ _ _ _ e0 h7 h8 h9 h10 h11 h12 (by decide)
      · next z1 z2 =>
        obtain ⟨b1, b2, b3⟩ := (h4 (t.getD 3 0 / 8 - 1) (by omega)).2 (t.getD 2 0 - 1) (by omega)
        exact bad _ _ _ _ _ _ _ _ ⟨Bb_app (Bb_cons (by decide) (Bb_cons (by omega) Bb_nil)) b3, by rw [List.length_append]; show 2 + _ ≤ 32; omega⟩ h7 h8 h9 h10 h11 h12 (by decide)
  split
  · split
    · exact bad _ _ _ _ _ _ _ _ e0 h7 h8 h9 h10 h11 h12 (by decide)
    · split
      · exact bad _ _ _ _ _ _ _ _ e0 h7 h8 h9 h10 h11 h12 (by decide)
      · split
        · exact bad _ _ _ _ _ _ _ _ e0 h7 (by decide) h9 h10 h11 (by decide) (by decide)
        · exact bad _ _ _ _ _ _ _ _ e0 h7 (by omega) h9 h10 h11 (by decide) (by omega)
  split
  · refine bad _ _ _ _ _ _ _ _ ?_ h7 h8 h9 h10 h11 h12 (by decide)
    split
    · exact ⟨Bb_cons (by decide) (Bb_cons (by decide) (Bb_cons (by decide) (Bb_cons (by omega) (Bb_cons (by omega) Bb_nil)))), by simp⟩
    · exact ⟨Bb_cons (by decide) (Bb_cons (by decide) (Bb_cons (by decide) (Bb_cons (by omega) Bb_nil))), by simp⟩
  · have hg := givN_v t am sg an pv
    have hm : Bb (mesF t cu (givN t am sg an pv) pv) := payM_lt (by omega)
    refine bad _ _ _ _ _ _ _ _ ⟨Bb_app ?_ (sl8_Bb (sealF_lt h5 hm)), by simp [givR, sl8]⟩ h7 h8 ?_ ?_ h11 h12 (by decide)
    · exact Bb_cons (by decide) (Bb_cons (by decide) (Bb_cons (by decide) (Bb_cons (by decide) (Bb_cons (by decide) (Bb_cons (by omega) (Bb_cons (by decide) (Bb_cons (by decide) (Bb_cons (by decide) (Bb_cons (by omega) (Bb_cons (by omega) (Bb_cons (by decide) (Bb_cons (by decide) (Bb_cons (by decide) Bb_nil)))))))))))))
    · split
      · next g64 =>
        split
        · omega
        · next s3 =>
          have : an < 2 := by
            unfold givN at g64
            split at g64
            · omega
            · split at g64
              · split at g64 <;> omega
              · omega
          omega
      · exact h9
    · split <;> omega
theorem t_obey {L : Nat} {xs : Nat → Int32} {Post : Option Value → mHeap → Prop} {h : mHeap} {t : List Nat} {tf : Nat → Int32} {s : Int32} (hr : RA h 1 2 40 t tf) (kP : Post (some (.int s)) (rPut h 1 2 40 [] tf)) : mGo M_Crd_obey L xs (5, 141) 0 0 Post 0 0 128 [some (.ref 9), some (.ref 1), some (.ref 3), some (.int s)] [] h := by
  refine mj_aload_n d_Crd_obey_128 rfl ?_
  refine mj_virtual (d' := (0, 0)) (mc := 0) (ms := 0) (As := []) d_Crd_obey_129 cw_Row_clear q_219 q_208 q_209 (ci := 0) rfl hr.1 rfl rfl (mRoomB rfl) ?_
  refine s_Row_clear hr ?_
  refine mj_iload_n d_Crd_obey_132 rfl ?_
  refine mj_iret d_Crd_obey_133 rfl rfl (Nat.le_refl _) (Nat.le_refl _) ?_
  exact kP
set_option maxRecDepth 20000 in
theorem s_Crd_obey {L : Nat} {xs : Nat → Int32} {Post : Option Value → mHeap → Prop} {t r li nm pd : List Nat} {tf rf lf nf pf ef fb fs fc frk fw ff fx ft : Nat → Int32} {co cu tr an sg am pv : Nat} {tl : mHeap} {cnt : Nat → Nat} {rc : Nat → List Nat} {rk : Nat → Nat} (hA : AI t r nm cnt rc rk co cu tr an sg am pv) (hC : CR t r li nm pd tf rf lf nf pf fb fs fc frk fw ff cnt rc rk) (kP : ∀ (rf2 : Nat → Int32) (pd2 : List Nat) (pf2 fx2 ft2 : Nat → Int32), Rf (sendF t nm cnt rc rk co cu tr an sg am pv).2.1 rf2 → Rf pd2 pf2 → pd2.length ≤ 16 → Post (some (.int (nI (sendF t nm cnt rc rk co cu tr an sg am pv).1))) (mkC [] ((sendF t nm cnt rc rk co cu tr an sg am pv).2.1) li nm pd2 tf rf2 lf nf pf2 ef fb fs fc frk fw ff fx2 ft2 co ((sendF t nm cnt rc rk co cu tr an sg am pv).2.2.1) ((sendF t nm cnt rc rk co cu tr an sg am pv).2.2.2.1) ((sendF t nm cnt rc rk co cu tr an sg am pv).2.2.2.2.1) ((sendF t nm cnt rc rk co cu tr an sg am pv).2.2.2.2.2.1) ((sendF t nm cnt rc rk co cu tr an sg am pv).2.2.2.2.2.2.1) ((sendF t nm cnt rc rk co cu tr an sg am pv).2.2.2.2.2.2.2) ++ tl)) : mMet M_Crd_obey L xs (5, 141) 0 0 [.ref 9, .ref 1, .ref 3] (mkC t r li nm pd tf rf lf nf pf ef fb fs fc frk fw ff fx ft co cu tr an sg am pv ++ tl) Post := by
  refine mMet_of rfl (Nat.le_of_ble_eq_true rfl) ?_
  refine mj_aload_n d_Crd_obey_0 rfl ?_
  refine mj_virtual (d' := (0, 0)) (mc := 0) (ms := 0) (As := []) d_Crd_obey_1 cw_Row_clear q_219 q_208 q_209 (ci := 0) rfl rfl rfl rfl (mRoomB rfl) ?_
  refine s_Row_clear ⟨rfl, rfl, hC.2.1, hA.2.1.2, by decide, by decide⟩ ?_
  rw [show rPut (mkC t r li nm pd tf rf lf nf pf ef fb fs fc frk fw ff fx ft co cu tr an sg am pv ++ tl) 3 4 32 [] rf = (mkC t [] li nm pd tf rf lf nf pf ef fb fs fc frk fw ff fx ft co cu tr an sg am pv ++ tl) from rfl]
  have hr1 : RA (mkC t [] li nm pd tf rf lf nf pf ef fb fs fc frk fw ff fx ft co cu tr an sg am pv ++ tl) 1 2 40 t tf := ⟨rfl, rfl, hC.1, hA.1.2, by decide, by decide⟩
  have hq1 : RA (mkC t [] li nm pd tf rf lf nf pf ef fb fs fc frk fw ff fx ft co cu tr an sg am pv ++ tl) 3 4 32 [] rf := ⟨rfl, rfl, (fun j hj => by cases hj), by decide, by decide, by decide⟩
  have hm1 : RA (mkC t [] li nm pd tf rf lf nf pf ef fb fs fc frk fw ff fx ft co cu tr an sg am pv ++ tl) 10 11 7 nm nf := ⟨rfl, rfl, hC.2.2.2.1, Nat.le_of_eq hA.2.2.1.2, by decide, by decide⟩
  have hp1 : RA (mkC t [] li nm pd tf rf lf nf pf ef fb fs fc frk fw ff fx ft co cu tr an sg am pv ++ tl) 22 23 16 pd pf := ⟨rfl, rfl, hC.2.2.2.2.1.1, hC.2.2.2.2.1.2, by decide, by decide⟩
  refine mj_aload_n d_Crd_obey_4 rfl ?_
  refine mj_aload_n d_Crd_obey_5 rfl ?_
  refine mj_virtual (d' := (3, 66)) (mc := 0) (ms := 0) (As := [_]) d_Crd_obey_6 cw_Crd_firstFault q_220 q_222 qs_Crd_firstFault (ci := 4) rfl rfl rfl rfl (mRoomB rfl) ?_
  refine s_Crd_firstFault hr1 hA.1.1 rfl hA.2.2.2.2.2.2.2.2.2.1 hA.2.2.2.2.2.2.1 ?_
  refine mj_istore_n d_Crd_obey_9 (by decide) ?_
  dsimp only [mSt1, mSt2, mKill, Nat.reduceAdd]
  refine mj_iload_n d_Crd_obey_10 rfl ?_
  refine mj_ldc d_Crd_obey_11 (nI 36864) q_259 ?_
  refine mj_icmpneN d_Crd_obey_13 128 rfl (by have := faultN_lt t sg cu; omega) (fun c_13 => ?_) (fun c_13 => ?_)
  · have e : (sendF t nm cnt rc rk co cu tr an sg am pv) = (faultN t sg cu, [], cu, tr, an, sg, am, pv) := by unfold sendF; rw [if_pos c_13]
    rw [e] at kP
    exact t_obey ⟨rfl, rfl, hC.1, hA.1.2, by decide, by decide⟩ (kP rf pd pf fx ft (fun j hj => by cases hj) hC.2.2.2.2.1.1 hC.2.2.2.2.1.2)
  · have hok : faultN t sg cu = 36864 := c_13
    obtain ⟨w1, w2, w3, w4, w5⟩ := fault_ok hok
    have hdl : datN t = if 5 < t.length then t.length - 5 else 0 := rfl
    have h2t := hA.2.2.2.2.2.2.2.2.1
    have dl : (5 < t.length ∧ datN t = t.length - 5) ∨ (¬ 5 < t.length ∧ datN t = 0) := by
      by_cases z : 5 < t.length
      · exact Or.inl ⟨z, by rw [hdl, if_pos z]⟩
      · exact Or.inr ⟨z, by rw [hdl, if_neg z]⟩
    refine mj_aload_n d_Crd_obey_16 rfl ?_
    refine mj_static (d' := (2, 46)) (mc := 0) (ms := 0) (As := [_]) d_Crd_obey_17 cw_Crd_instructionOf q_232 q_233 rfl rfl (mRoomB rfl) ?_
    refine s_Crd_instructionOf hr1 hA.1.1 (by omega) ?_
    rcases cm_cases w2 with hi | hi | hi | hi | hi | hi
    · have hcm : cmN (insN t) = 1 := by rw [hi]; rfl
      rw [hi]
      rw [hcm] at w3 w4 w5
      refine mj_lookup d_Crd_obey_20 (by decide) (off := 52) (by decide) 72 rfl ?_
      refine mj_aload_n d_Crd_obey_72 rfl ?_
      refine mj_aload_n d_Crd_obey_73 rfl ?_
      refine mj_aload_n d_Crd_obey_74 rfl ?_
      refine mj_virtual (d' := (3, 70)) (mc := 0) (ms := 0) (As := [_, _]) d_Crd_obey_75 cw_Crd_select q_260 q_262 qs_Crd_select (ci := 4) rfl rfl rfl rfl (mRoomB rfl) ?_
      refine s_Crd_select hr1 hA.1.1 hq1 rfl hm1 hA.2.2.1.2 hA.2.2.1.1 (by unfold datN; rw [if_pos (by omega)]; omega) (fun z => ?_) (fun z f hf => ?_)
      · have e : (sendF t nm cnt rc rk co cu tr an sg am pv) = (27266, [], cu, tr, an, sg, am, pv) := by
          unfold sendF
          rw [if_neg (Decidable.not_not.mpr hok), if_pos (by rw [hcm]), if_neg z]
        rw [e] at kP
        refine mj_istore_n d_Crd_obey_78 (by decide) ?_
        dsimp only [mSt1, mSt2, mKill, Nat.reduceAdd]
        refine mj_goto d_Crd_obey_79 128 rfl ?_
        exact t_obey ⟨rfl, rfl, hC.1, hA.1.2, by decide, by decide⟩ (kP rf pd pf fx ft (fun j hj => by cases hj) hC.2.2.2.2.1.1 hC.2.2.2.2.1.2)
      · have e : (sendF t nm cnt rc rk co cu tr an sg am pv) = (36864, selR nm, cu, tr, an, 1, am, pv) := by
          unfold sendF
          rw [if_neg (Decidable.not_not.mpr hok), if_pos (by rw [hcm]), if_pos z]
        rw [e] at kP
        refine mj_istore_n d_Crd_obey_78 (by decide) ?_
        dsimp only [mSt1, mSt2, mKill, Nat.reduceAdd]
        refine mj_goto d_Crd_obey_79 128 rfl ?_
        exact t_obey ⟨rfl, rfl, hC.1, hA.1.2, by decide, by decide⟩ (kP f pd pf fx ft hf hC.2.2.2.2.1.1 hC.2.2.2.2.1.2)
    · have hcm : cmN (insN t) = 2 := by rw [hi]; rfl
      rw [hi]
      rw [hcm] at w3 w4 w5
      refine mj_lookup d_Crd_obey_20 (by decide) (off := 62) (by decide) 82 rfl ?_
      refine mj_aload_n d_Crd_obey_82 rfl ?_
      refine mj_aload_n d_Crd_obey_83 rfl ?_
      refine mj_aload_n d_Crd_obey_84 rfl ?_
      refine mj_virtual (d' := (2, 46)) (mc := 0) (ms := 0) (As := [_, _]) d_Crd_obey_85 cw_Crd_ready q_286 q_288 qs_Crd_ready (ci := 4) rfl rfl rfl rfl (mRoomB rfl) ?_
      refine s_Crd_ready hr1 hA.1.1 hq1 rfl rfl rfl hC.2.2.2.2.2.1 (by omega) (fun z => ?_) (fun z f hf => ?_)
      · have e : (sendF t nm cnt rc rk co cu tr an sg am pv) = (27264, [], cu, tr, an, sg, am, pv) := by
          unfold sendF
          rw [if_neg (Decidable.not_not.mpr hok), if_neg (by rw [hcm]; decide), if_pos (by rw [hcm]), if_neg z]
        rw [e] at kP
        refine mj_istore_n d_Crd_obey_88 (by decide) ?_
        dsimp only [mSt1, mSt2, mKill, Nat.reduceAdd]
        refine mj_goto d_Crd_obey_89 128 rfl ?_
        exact t_obey ⟨rfl, rfl, hC.1, hA.1.2, by decide, by decide⟩ (kP rf pd pf fx ft (fun j hj => by cases hj) hC.2.2.2.2.1.1 hC.2.2.2.2.1.2)
      · have e : (sendF t nm cnt rc rk co cu tr an sg am pv) = (36864, rdyR cnt, cu + 1, tr, an, 2, amtN t 7 6, 0) := by
          unfold sendF
          rw [if_neg (Decidable.not_not.mpr hok), if_neg (by rw [hcm]; decide), if_pos (by rw [hcm]), if_pos z]
        rw [e] at kP
        refine mj_istore_n d_Crd_obey_88 (by decide) ?_
        dsimp only [mSt1, mSt2, mKill, Nat.reduceAdd]
        refine mj_goto d_Crd_obey_89 128 rfl ?_
        exact t_obey ⟨rfl, rfl, hC.1, hA.1.2, by decide, by decide⟩ (kP f pd pf fx ft hf hC.2.2.2.2.1.1 hC.2.2.2.2.1.2)
    · have hcm : cmN (insN t) = 3 := by rw [hi]; rfl
      rw [hi]
      rw [hcm] at w3 w4 w5
      refine mj_lookup d_Crd_obey_20 (by decide) (off := 72) (by decide) 92 rfl ?_
      refine mj_aload_n d_Crd_obey_92 rfl ?_
      refine mj_aload_n d_Crd_obey_93 rfl ?_
      refine mj_aload_n d_Crd_obey_94 rfl ?_
      refine mj_virtual (d' := (2, 46)) (mc := 0) (ms := 0) (As := [_, _]) d_Crd_obey_95 cw_Crd_read q_297 q_299 qs_Crd_read (ci := 4) rfl rfl rfl rfl (mRoomB rfl) ?_
      refine s_Crd_read hr1 hA.1.1 hq1 rfl rfl rfl rfl rfl hC.2.2.2.2.2.1 (by omega) (fun z => ?_) (fun z z2 => ?_) (fun z z2 f hf => ?_)
      · have e : (sendF t nm cnt rc rk co cu tr an sg am pv) = (27266, [], cu, tr, an, sg, am, pv) := by
          unfold sendF
          rw [if_neg (Decidable.not_not.mpr hok), if_neg (by rw [hcm]; decide), if_neg (by rw [hcm]; decide), if_pos (by rw [hcm]), if_pos z]
        rw [e] at kP
        refine mj_istore_n d_Crd_obey_98 (by decide) ?_
        dsimp only [mSt1, mSt2, mKill, Nat.reduceAdd]
        refine mj_goto d_Crd_obey_99 128 rfl ?_
        exact t_obey ⟨rfl, rfl, hC.1, hA.1.2, by decide, by decide⟩ (kP rf pd pf fx ft (fun j hj => by cases hj) hC.2.2.2.2.1.1 hC.2.2.2.2.1.2)
      · have e : (sendF t nm cnt rc rk co cu tr an sg am pv) = (27267, [], cu, tr, an, sg, am, pv) := by
          unfold sendF
          rw [if_neg (Decidable.not_not.mpr hok), if_neg (by rw [hcm]; decide), if_neg (by rw [hcm]; decide), if_pos (by rw [hcm]), if_neg z, if_pos z2]
        rw [e] at kP
        refine mj_istore_n d_Crd_obey_98 (by decide) ?_
        dsimp only [mSt1, mSt2, mKill, Nat.reduceAdd]
        refine mj_goto d_Crd_obey_99 128 rfl ?_
        exact t_obey ⟨rfl, rfl, hC.1, hA.1.2, by decide, by decide⟩ (kP rf pd pf fx ft (fun j hj => by cases hj) hC.2.2.2.2.1.1 hC.2.2.2.2.1.2)
      · have e : (sendF t nm cnt rc rk co cu tr an sg am pv) = (36864, [112, (rc (3 * (t.getD 3 0 / 8 - 1) + (t.getD 2 0 - 1))).length] ++ rc (3 * (t.getD 3 0 / 8 - 1) + (t.getD 2 0 - 1)), cu, tr, an, sg, am, pv) := by
          unfold sendF
          rw [if_neg (Decidable.not_not.mpr hok), if_neg (by rw [hcm]; decide), if_neg (by rw [hcm]; decide), if_pos (by rw [hcm]), if_neg z, if_neg z2]
        rw [e] at kP
        refine mj_istore_n d_Crd_obey_98 (by decide) ?_
        dsimp only [mSt1, mSt2, mKill, Nat.reduceAdd]
        refine mj_goto d_Crd_obey_99 128 rfl ?_
        exact t_obey ⟨rfl, rfl, hC.1, hA.1.2, by decide, by decide⟩ (kP f pd pf fx ft hf hC.2.2.2.2.1.1 hC.2.2.2.2.1.2)
    · have hcm : cmN (insN t) = 4 := by rw [hi]; rfl
      rw [hi]
      rw [hcm] at w3 w4 w5
      refine mj_lookup d_Crd_obey_20 (by decide) (off := 82) (by decide) 102 rfl ?_
      refine mj_aload_n d_Crd_obey_102 rfl ?_
      refine mj_aload_n d_Crd_obey_103 rfl ?_
      refine mj_virtual (d' := (2, 43)) (mc := 0) (ms := 0) (As := [_]) d_Crd_obey_104 cw_Crd_prove q_307 q_309 qs_Crd_prove (ci := 4) rfl rfl rfl rfl (mRoomB rfl) ?_
      refine s_Crd_prove hr1 hA.1.1 rfl (by omega) hA.2.2.2.2.2.1 hA.2.2.2.2.2.2.2.1 (fun z => ?_) (fun z z2 => ?_) (fun z z2 z3 => ?_) (fun z z2 z3 => ?_)
      · have e : (sendF t nm cnt rc rk co cu tr an sg am pv) = (27011, [], cu, tr, an, sg, am, pv) := by
          unfold sendF
          rw [if_neg (Decidable.not_not.mpr hok), if_neg (by rw [hcm]; decide), if_neg (by rw [hcm]; decide), if_neg (by rw [hcm]; decide), if_pos (by rw [hcm]), if_pos z]
        rw [e] at kP
        refine mj_istore_n d_Crd_obey_107 (by decide) ?_
        dsimp only [mSt1, mSt2, mKill, Nat.reduceAdd]
        refine mj_goto d_Crd_obey_108 128 rfl ?_
        exact t_obey ⟨rfl, rfl, hC.1, hA.1.2, by decide, by decide⟩ (kP rf pd pf fx ft (fun j hj => by cases hj) hC.2.2.2.2.1.1 hC.2.2.2.2.1.2)
      · have e : (sendF t nm cnt rc rk co cu tr an sg am pv) = (27264, [], cu, tr, an, sg, am, pv) := by
          unfold sendF
          rw [if_neg (Decidable.not_not.mpr hok), if_neg (by rw [hcm]; decide), if_neg (by rw [hcm]; decide), if_neg (by rw [hcm]; decide), if_pos (by rw [hcm]), if_neg z, if_pos z2]
        rw [e] at kP
        refine mj_istore_n d_Crd_obey_107 (by decide) ?_
        dsimp only [mSt1, mSt2, mKill, Nat.reduceAdd]
        refine mj_goto d_Crd_obey_108 128 rfl ?_
        exact t_obey ⟨rfl, rfl, hC.1, hA.1.2, by decide, by decide⟩ (kP rf pd pf fx ft (fun j hj => by cases hj) hC.2.2.2.2.1.1 hC.2.2.2.2.1.2)
      · have e : (sendF t nm cnt rc rk co cu tr an sg am pv) = (36864, [], cu, 3, an, sg, am, 1) := by
          unfold sendF
          rw [if_neg (Decidable.not_not.mpr hok), if_neg (by rw [hcm]; decide), if_neg (by rw [hcm]; decide), if_neg (by rw [hcm]; decide), if_pos (by rw [hcm]), if_neg z, if_neg (Decidable.not_not.mpr z2), if_pos z3]
        rw [e] at kP
        refine mj_istore_n d_Crd_obey_107 (by decide) ?_
        dsimp only [mSt1, mSt2, mKill, Nat.reduceAdd]
        refine mj_goto d_Crd_obey_108 128 rfl ?_
        exact t_obey ⟨rfl, rfl, hC.1, hA.1.2, by decide, by decide⟩ (kP rf pd pf fx ft (fun j hj => by cases hj) hC.2.2.2.2.1.1 hC.2.2.2.2.1.2)
      · have e : (sendF t nm cnt rc rk co cu tr an sg am pv) = (25536 + (tr - 1), [], cu, tr - 1, an, sg, am, 0) := by
          unfold sendF
          rw [if_neg (Decidable.not_not.mpr hok), if_neg (by rw [hcm]; decide), if_neg (by rw [hcm]; decide), if_neg (by rw [hcm]; decide), if_pos (by rw [hcm]), if_neg z, if_neg (Decidable.not_not.mpr z2), if_neg z3]
        rw [e] at kP
        refine mj_istore_n d_Crd_obey_107 (by decide) ?_
        dsimp only [mSt1, mSt2, mKill, Nat.reduceAdd]
        refine mj_goto d_Crd_obey_108 128 rfl ?_
        exact t_obey ⟨rfl, rfl, hC.1, hA.1.2, by decide, by decide⟩ (kP rf pd pf fx ft (fun j hj => by cases hj) hC.2.2.2.2.1.1 hC.2.2.2.2.1.2)
    · have hcm : cmN (insN t) = 5 := by rw [hi]; rfl
      rw [hi]
      rw [hcm] at w3 w4 w5
      refine mj_lookup d_Crd_obey_20 (by decide) (off := 91) (by decide) 111 rfl ?_
      refine mj_aload_n d_Crd_obey_111 rfl ?_
      refine mj_aload_n d_Crd_obey_112 rfl ?_
      refine mj_aload_n d_Crd_obey_113 rfl ?_
      refine mj_virtual (d' := (3, 70)) (mc := 0) (ms := 0) (As := [_, _]) d_Crd_obey_114 cw_Crd_tell q_317 q_319 qs_Crd_tell (ci := 4) rfl rfl rfl rfl (mRoomB rfl) ?_
      refine s_Crd_tell hr1 hA.1.1 hq1 rfl (by omega) hA.2.2.2.2.2.2.1 hA.2.2.2.2.2.2.2.1 (fun f hf => ?_)
      · have e : (sendF t nm cnt rc rk co cu tr an sg am pv) = (36864, if t.getD 3 0 = 54 then [159, 54, 2, cu / 256, cu % 256] else [159, 23, 1, tr], cu, tr, an, sg, am, pv) := by
          unfold sendF
          rw [if_neg (Decidable.not_not.mpr hok), if_neg (by rw [hcm]; decide), if_neg (by rw [hcm]; decide), if_neg (by rw [hcm]; decide), if_neg (by rw [hcm]; decide), if_pos (by rw [hcm])]
        rw [e] at kP
        refine mj_istore_n d_Crd_obey_117 (by decide) ?_
        dsimp only [mSt1, mSt2, mKill, Nat.reduceAdd]
        refine mj_goto d_Crd_obey_118 128 rfl ?_
        exact t_obey ⟨rfl, rfl, hC.1, hA.1.2, by decide, by decide⟩ (kP f pd pf fx ft hf hC.2.2.2.2.1.1 hC.2.2.2.2.1.2)
    · have hcm : cmN (insN t) = 6 := by rw [hi]; rfl
      rw [hi]
      rw [hcm] at w3 w4 w5
      refine mj_lookup d_Crd_obey_20 (by decide) (off := 101) (by decide) 121 rfl ?_
      refine mj_aload_n d_Crd_obey_121 rfl ?_
      refine mj_aload_n d_Crd_obey_122 rfl ?_
      refine mj_aload_n d_Crd_obey_123 rfl ?_
      refine mj_virtual (d' := (4, 111)) (mc := 0) (ms := 0) (As := [_, _]) d_Crd_obey_124 cw_Crd_giveSeal q_323 q_325 qs_Crd_giveSeal (ci := 4) rfl rfl rfl rfl (mRoomB rfl) ?_
      refine s_Crd_giveSeal hr1 hA.1.1 hq1 rfl rfl rfl rfl rfl rfl rfl hp1 hC.2.2.2.2.2.2.1 hC.2.2.2.2.2.2.2.1 hC.2.2.2.2.2.2.2.2 hA.2.2.2.2.1 (by omega) hA.2.2.2.2.2.2.2.2.2.2.1 (by omega) hA.2.2.2.2.2.2.2.2.2.2.2 hA.2.2.2.2.2.2.1 (fun g t1 f1 f hg hf => ?_)
      · have e : (sendF t nm cnt rc rk co cu tr an sg am pv) = (36864, givR rk t cu (givN t am sg an pv) pv, cu, tr, (if givN t am sg an pv = 64 then (if sg = 3 then 0 else an + 1) else an), (if givN t am sg an pv = 128 then 3 else 4), am, pv) := by
          unfold sendF
          rw [if_neg (Decidable.not_not.mpr hok), if_neg (by rw [hcm]; decide), if_neg (by rw [hcm]; decide), if_neg (by rw [hcm]; decide), if_neg (by rw [hcm]; decide), if_neg (by rw [hcm]; decide)]
        rw [e] at kP
        refine mj_istore_n d_Crd_obey_127 (by decide) ?_
        dsimp only [mSt1, mSt2, mKill, Nat.reduceAdd]
        exact t_obey ⟨rfl, rfl, hC.1, hA.1.2, by decide, by decide⟩ (kP f _ g f1 t1 hf hg (by unfold mesF; rw [payM_len]; decide))
