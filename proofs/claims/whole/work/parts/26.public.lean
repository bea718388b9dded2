def OKs (l : List Nat) : List Nat → Nat → Prop
  | [], p => p ≤ l.length
  | e :: es, p => p ≤ e ∧ OKs l es e
theorem OKs_le {l : List Nat} : ∀ {s : List Nat} {p : Nat}, OKs l s p → p ≤ l.length
  | [], _, h => h
  | _ :: _, _, h => Nat.le_trans h.1 (OKs_le h.2)
theorem fnd_tot {l : List Nat} {tag : Int32} : ∀ (n : Nat) (s : List Nat) (p : Nat), OKs l s p → 2 * (l.length - p) + s.length < n → ∃ r, fnd l tag n s p = some r ∧ (r = -1 ∨ ∃ k : Nat, r = nI k ∧ 2 ≤ k ∧ k + l.getD (k - 1) 0 ≤ l.length)
  | 0, s, p, _, h => by omega
  | n + 1, [], p, _, _ => ⟨-1, rfl, Or.inl rfl⟩
  | n + 1, e :: es, p, ho, hn => by
    have hle := OKs_le ho.2
    have hh := hd3_ge l p
    rw [List.length_cons] at hn
    rw [fnd]
    split
    · next hp => exact fnd_tot n es p (by rw [hp]; exact ho.2) (by omega)
    next hp =>
    have hpe := ho.1
    split
    · exact ⟨-1, rfl, Or.inl rfl⟩
    next c1 =>
    split
    · exact ⟨-1, rfl, Or.inl rfl⟩
    next c2 =>
    split
    · exact ⟨_, rfl, Or.inr ⟨hd3 l p, rfl, by omega, by omega⟩⟩
    · split
      · exact fnd_tot n _ _ ⟨by omega, by omega, ho.2⟩ (by simp only [List.length_cons]; omega)
      · exact fnd_tot n _ _ ⟨by omega, ho.2⟩ (by simp only [List.length_cons]; omega)
/-- the place that the search finds, 0 if none -/
def fk (l : List Nat) (tag : Int32) : Nat := match fnd l tag 100 [l.length] 0 with
  | none => 0
  | some r => if r = -1 then 0 else r.toNatClampNeg
def fV (l : List Nat) (tag : Int32) : Int32 := if fk l tag = 0 then -1 else nI (fk l tag)
theorem fk_spec {l : List Nat} {tag : Int32} (hl : l.length ≤ 40) : fnd l tag 100 [l.length] 0 = some (fV l tag) ∧ (fk l tag = 0 ∨ (2 ≤ fk l tag ∧ fk l tag + l.getD (fk l tag - 1) 0 ≤ l.length)) := by
  obtain ⟨r, h1, h2⟩ := fnd_tot (l := l) (tag := tag) 100 [l.length] 0 ⟨Nat.zero_le _, Nat.le_refl _⟩ (by simp; omega)
  have e : fk l tag = if r = -1 then 0 else r.toNatClampNeg := by unfold fk; rw [h1]
  rcases h2 with rfl | ⟨k, rfl, h3, h4⟩
  · rw [if_pos rfl] at e
    refine ⟨by rw [h1, fV, if_pos e], Or.inl e⟩
  · have hne : ¬ nI k = -1 := fun z => by
      have q := congrArg Int32.toInt z
      rw [nI_toInt (by omega)] at q
      have e2 : (-1 : Int32).toInt = -1 := by decide
      omega
    rw [if_neg hne, nI_clamp (by omega)] at e
    refine ⟨by rw [h1, fV, if_neg (by omega), e], Or.inr (by rw [e]; exact ⟨h3, h4⟩)⟩
theorem nI_neg1 {k : Nat} (hk : k < 2 ^ 31) : ¬ nI k = -1 := fun z => by
  have q := congrArg Int32.toInt z
  rw [nI_toInt hk] at q
  have e2 : (-1 : Int32).toInt = -1 := by decide
  omega
/-- the class holds the card's state in its part of the heap -/
def CW (t r nm : List Nat) (cnt : Nat → Nat) (rc : Nat → List Nat) (rk : Nat → Nat) (co cu tr an sg am pv : Nat) (tl h : mHeap) : Prop := ∃ (li pd : List Nat) (tf rf lf nf pf ef fb fs fc frk fw ff fx ft : Nat → Int32), CR t r li nm pd tf rf lf nf pf fb fs fc frk fw ff cnt rc rk ∧ h = (mkC t r li nm pd tf rf lf nf pf ef fb fs fc frk fw ff fx ft co cu tr an sg am pv ++ tl)
theorem CW_of {t r li nm pd : List Nat} {tf rf lf nf pf ef fb fs fc frk fw ff fx ft : Nat → Int32} {co cu tr an sg am pv : Nat} {tl : mHeap} {cnt : Nat → Nat} {rc : Nat → List Nat} {rk : Nat → Nat} (hC : CR t r li nm pd tf rf lf nf pf fb fs fc frk fw ff cnt rc rk) : CW t r nm cnt rc rk co cu tr an sg am pv tl (mkC t r li nm pd tf rf lf nf pf ef fb fs fc frk fw ff fx ft co cu tr an sg am pv ++ tl) := ⟨li, pd, tf, rf, lf, nf, pf, ef, fb, fs, fc, frk, fw, ff, fx, ft, hC, rfl⟩
theorem b255 {v : Int32} (h1 : ¬ v < 0) (h2 : v ≤ nI 255) : ∃ n : Nat, n < 256 ∧ v = nI n := by
  obtain ⟨j, hj, rfl⟩ := nI_of h1
  rw [nI_leI hj (by decide)] at h2
  exact ⟨j, by omega, rfl⟩
theorem Bb_snoc {t : List Nat} {n : Nat} (h : Bb t) (hn : n < 256) : Bb (t ++ [n]) := Bb_app h (Bb_cons hn Bb_nil)
theorem s_Pur_put {L : Nat} {xs : Nat → Int32} {Post : Option Value → mHeap → Prop} {t r nm : List Nat} {cnt : Nat → Nat} {rc : Nat → List Nat} {rk : Nat → Nat} {co cu tr an sg am pv : Nat} {tl h : mHeap} {v : Int32} (hA : AI t r nm cnt rc rk co cu tr an sg am pv) (hW : CW t r nm cnt rc rk co cu tr an sg am pv tl h) (kF : (¬ ∃ n : Nat, n < 256 ∧ v = nI n ∧ t.length < 40) → ∀ h', CW t r nm cnt rc rk co cu tr an sg am pv tl h' → Post (some (.int (nI 0))) h') (kT : ∀ n : Nat, n < 256 → v = nI n → t.length < 40 → ∀ h', CW (t ++ [n]) r nm cnt rc rk co cu tr an sg am pv tl h' → Post (some (.int (nI 1))) h') : mMet M_Pur_put L xs (1, 21) 0 0 [.ref 0, .int v] h Post := by
  obtain ⟨li, pd, tf, rf, lf, nf, pf, ef, fb, fs, fc, frk, fw, ff, fx, ft, hC, rfl⟩ := hW
  refine mMet_of rfl (Nat.le_of_ble_eq_true rfl) ?_
  refine mj_iload_n d_Pur_put_0 rfl ?_
  refine mj_iflt d_Pur_put_1 11 rfl (fun c_1 => ?_) (fun c_1 => ?_)
  · refine mj_iconst d_Pur_put_11 (nI 0) (by decide) ?_
    refine mj_iret d_Pur_put_12 rfl (by decide) (Nat.le_refl _) (Nat.le_refl _) ?_
    refine kF (fun z => ?_) _ (CW_of hC)
    obtain ⟨n, z1, z2, z3⟩ := z
    first
      | exact nI_pos (n := n) (by omega) (by rw [← z2]; exact c_1)
      | exact c_8 (by rw [z2]; exact (nI_leI (by omega) (by decide)).mpr (by omega))
  · refine mj_iload_n d_Pur_put_4 rfl ?_
    refine mj_sipush d_Pur_put_5 (nI 255) (by decide) ?_
    refine mj_icmple d_Pur_put_8 13 rfl (fun c_8 => ?_) (fun c_8 => ?_)
    · obtain ⟨n, hn, rfl⟩ := b255 c_1 c_8
      refine mj_aload_n d_Pur_put_13 rfl ?_
      refine mj_get d_Pur_put_14 fd_Pur_14 rfl rfl ?_
      refine mj_iload_n d_Pur_put_17 rfl ?_
      refine mj_virtual (d' := (0, 0)) (mc := 0) (ms := 0) (As := [_]) d_Pur_put_18 cw_Row_add q_198 q_137 q_138 (ci := 0) rfl rfl rfl rfl (mRoomB rfl) ?_
      refine s_Row_add (⟨rfl, rfl, hC.1, hA.1.2, by decide, by decide⟩) (fun z => ?_) (fun z f hf => ?_)
      · refine mj_iret (v := 0) d_Pur_put_21 rfl (by decide) (Nat.le_refl _) (Nat.le_refl _) ?_
        refine kF (fun y => ?_) _ (CW_of hC)
        obtain ⟨m, y1, y2, y3⟩ := y
        omega
      · refine mj_iret (v := 1) d_Pur_put_21 rfl (by decide) (Nat.le_refl _) (Nat.le_refl _) ?_
        exact kT n hn rfl z _ (CW_of (tf := f) ⟨hf, hC.2⟩)
    · refine mj_iconst d_Pur_put_11 (nI 0) (by decide) ?_
      refine mj_iret d_Pur_put_12 rfl (by decide) (Nat.le_refl _) (Nat.le_refl _) ?_
      refine kF (fun z => ?_) _ (CW_of hC)
      obtain ⟨n, z1, z2, z3⟩ := z
      first
        | exact nI_pos (n := n) (by omega) (by rw [← z2]; exact c_1)
        | exact c_8 (by rw [z2]; exact (nI_leI (by omega) (by decide)).mpr (by omega))
theorem s_Pur_wipe {L : Nat} {xs : Nat → Int32} {Post : Option Value → mHeap → Prop} {t r nm : List Nat} {cnt : Nat → Nat} {rc : Nat → List Nat} {rk : Nat → Nat} {co cu tr an sg am pv : Nat} {tl h : mHeap}  (hA : AI t r nm cnt rc rk co cu tr an sg am pv) (hW : CW t r nm cnt rc rk co cu tr an sg am pv tl h) (kP : ∀ h', CW ([]) r nm cnt rc rk co cu tr an sg am pv tl h' → Post (some (.int (nI t.length))) h') : mMet M_Pur_wipe L xs (1, 20) 0 0 [.ref 0] h Post := by
  obtain ⟨li, pd, tf, rf, lf, nf, pf, ef, fb, fs, fc, frk, fw, ff, fx, ft, hC, rfl⟩ := hW
  refine mMet_of rfl (Nat.le_of_ble_eq_true rfl) ?_
  refine mj_aload_n d_Pur_wipe_0 rfl ?_
  refine mj_get d_Pur_wipe_1 fd_Pur_14 rfl rfl ?_
  refine mj_virtual (d' := (0, 0)) (mc := 0) (ms := 0) (As := []) d_Pur_wipe_4 cw_Row_size q_203 q_204 q_205 (ci := 0) rfl rfl rfl rfl (mRoomB rfl) ?_
  refine s_Row_size (⟨rfl, rfl, hC.1, hA.1.2, by decide, by decide⟩) ?_
  refine mj_istore_n d_Pur_wipe_7 (by decide) ?_
  dsimp only [mSt1, mSt2, mKill, Nat.reduceAdd]
  refine mj_aload_n d_Pur_wipe_8 rfl ?_
  refine mj_get d_Pur_wipe_9 fd_Pur_14 rfl rfl ?_
  refine mj_virtual (d' := (0, 0)) (mc := 0) (ms := 0) (As := []) d_Pur_wipe_12 cw_Row_clear q_207 q_208 q_209 (ci := 0) rfl rfl rfl rfl (mRoomB rfl) ?_
  refine s_Row_clear (⟨rfl, rfl, hC.1, hA.1.2, by decide, by decide⟩) ?_
  refine mj_iload_n d_Pur_wipe_15 rfl ?_
  refine mj_iret d_Pur_wipe_16 rfl rfl (Nat.le_refl _) (Nat.le_refl _) ?_
  exact kP _ (CW_of (tf := tf) ⟨(fun j hj => by cases hj), hC.2⟩)
theorem s_Pur_send {L : Nat} {xs : Nat → Int32} {Post : Option Value → mHeap → Prop} {t r nm : List Nat} {cnt : Nat → Nat} {rc : Nat → List Nat} {rk : Nat → Nat} {co cu tr an sg am pv : Nat} {tl h : mHeap}  (hA : AI t r nm cnt rc rk co cu tr an sg am pv) (hW : CW t r nm cnt rc rk co cu tr an sg am pv tl h) (kP : ∀ h', CW ([]) ((sendF t nm cnt rc rk co cu tr an sg am pv).2.1) nm cnt rc rk co ((sendF t nm cnt rc rk co cu tr an sg am pv).2.2.1) ((sendF t nm cnt rc rk co cu tr an sg am pv).2.2.2.1) ((sendF t nm cnt rc rk co cu tr an sg am pv).2.2.2.2.1) ((sendF t nm cnt rc rk co cu tr an sg am pv).2.2.2.2.2.1) ((sendF t nm cnt rc rk co cu tr an sg am pv).2.2.2.2.2.2.1) ((sendF t nm cnt rc rk co cu tr an sg am pv).2.2.2.2.2.2.2) tl h' → Post (some (.int (nI (sendF t nm cnt rc rk co cu tr an sg am pv).1))) h') : mMet M_Pur_send L xs (6, 164) 0 0 [.ref 0] h Post := by
  obtain ⟨li, pd, tf, rf, lf, nf, pf, ef, fb, fs, fc, frk, fw, ff, fx, ft, hC, rfl⟩ := hW
  refine mMet_of rfl (Nat.le_of_ble_eq_true rfl) ?_
  refine mj_aload_n d_Pur_send_0 rfl ?_
  refine mj_get d_Pur_send_1 fd_Pur_34 rfl rfl ?_
  refine mj_aload_n d_Pur_send_4 rfl ?_
  refine mj_get d_Pur_send_5 fd_Pur_14 rfl rfl ?_
  refine mj_aload_n d_Pur_send_8 rfl ?_
  refine mj_get d_Pur_send_9 fd_Pur_18 rfl rfl ?_
  refine mj_virtual (d' := (5, 141)) (mc := 0) (ms := 0) (As := [_, _]) d_Pur_send_12 cw_Crd_obey q_215 q_216 q_217 (ci := 4) rfl rfl rfl rfl (mRoomB rfl) ?_
  refine s_Crd_obey hA hC (fun rf2 pd2 pf2 fx2 ft2 h1 h2 h3 => ?_)
  refine mj_iret d_Pur_send_15 rfl rfl (Nat.le_refl _) (Nat.le_refl _) ?_
  exact kP _ (CW_of (tf := tf) ⟨(fun j hj => by cases hj), h1, hC.2.2.1, hC.2.2.2.1, ⟨h2, h3⟩, hC.2.2.2.2.2⟩)
theorem s_Pur_answered {L : Nat} {xs : Nat → Int32} {Post : Option Value → mHeap → Prop} {t r nm : List Nat} {cnt : Nat → Nat} {rc : Nat → List Nat} {rk : Nat → Nat} {co cu tr an sg am pv : Nat} {tl h : mHeap}  (hA : AI t r nm cnt rc rk co cu tr an sg am pv) (hW : CW t r nm cnt rc rk co cu tr an sg am pv tl h) (kP : ∀ h', CW t r nm cnt rc rk co cu tr an sg am pv tl h' → Post (some (.int (nI r.length))) h') : mMet M_Pur_answered L xs (1, 20) 0 0 [.ref 0] h Post := by
  obtain ⟨li, pd, tf, rf, lf, nf, pf, ef, fb, fs, fc, frk, fw, ff, fx, ft, hC, rfl⟩ := hW
  refine mMet_of rfl (Nat.le_of_ble_eq_true rfl) ?_
  refine mj_aload_n d_Pur_answered_0 rfl ?_
  refine mj_get d_Pur_answered_1 fd_Pur_18 rfl rfl ?_
  refine mj_virtual (d' := (0, 0)) (mc := 0) (ms := 0) (As := []) d_Pur_answered_4 cw_Row_size q_203 q_204 q_205 (ci := 0) rfl rfl rfl rfl (mRoomB rfl) ?_
  refine s_Row_size (⟨rfl, rfl, hC.2.1, hA.2.1.2, by decide, by decide⟩) ?_
  refine mj_iret d_Pur_answered_7 rfl rfl (Nat.le_refl _) (Nat.le_refl _) ?_
  exact kP _ (CW_of hC)
theorem s_Pur_answer {L : Nat} {xs : Nat → Int32} {Post : Option Value → mHeap → Prop} {t r nm : List Nat} {cnt : Nat → Nat} {rc : Nat → List Nat} {rk : Nat → Nat} {co cu tr an sg am pv : Nat} {tl h : mHeap} {v : Int32} (hA : AI t r nm cnt rc rk co cu tr an sg am pv) (hW : CW t r nm cnt rc rk co cu tr an sg am pv tl h) (kP : ∀ h', CW t r nm cnt rc rk co cu tr an sg am pv tl h' → Post (some (.int (atV r v))) h') : mMet M_Pur_answer L xs (1, 21) 0 0 [.ref 0, .int v] h Post := by
  obtain ⟨li, pd, tf, rf, lf, nf, pf, ef, fb, fs, fc, frk, fw, ff, fx, ft, hC, rfl⟩ := hW
  refine mMet_of rfl (Nat.le_of_ble_eq_true rfl) ?_
  refine mj_aload_n d_Pur_answer_0 rfl ?_
  refine mj_get d_Pur_answer_1 fd_Pur_18 rfl rfl ?_
  refine mj_iload_n d_Pur_answer_4 rfl ?_
  refine mj_virtual (d' := (0, 0)) (mc := 0) (ms := 0) (As := [_]) d_Pur_answer_5 cw_Row_at q_359 q_229 q_230 (ci := 0) rfl rfl rfl rfl (mRoomB rfl) ?_
  refine s_Row_at (⟨rfl, rfl, hC.2.1, hA.2.1.2, by decide, by decide⟩) ?_
  refine mj_iret d_Pur_answer_8 rfl rfl (Nat.le_refl _) (Nat.le_refl _) ?_
  exact kP _ (CW_of hC)
theorem s_Pur_find {L : Nat} {xs : Nat → Int32} {Post : Option Value → mHeap → Prop} {t r nm : List Nat} {cnt : Nat → Nat} {rc : Nat → List Nat} {rk : Nat → Nat} {co cu tr an sg am pv : Nat} {tl h : mHeap} {v : Int32} (hA : AI t r nm cnt rc rk co cu tr an sg am pv) (hW : CW t r nm cnt rc rk co cu tr an sg am pv tl h) (kP : ∀ h', CW t r nm cnt rc rk co cu tr an sg am pv tl h' → Post (some (.int (fV r v))) h') : mMet M_Pur_find L xs (2, 50) 0 0 [.ref 0, .int v] h Post := by
  obtain ⟨li, pd, tf, rf, lf, nf, pf, ef, fb, fs, fc, frk, fw, ff, fx, ft, hC, rfl⟩ := hW
  refine mMet_of rfl (Nat.le_of_ble_eq_true rfl) ?_
  refine mj_aload_n d_Pur_find_0 rfl ?_
  refine mj_get d_Pur_find_1 fd_Pur_27 rfl rfl ?_
  refine mj_iload_n d_Pur_find_4 rfl ?_
  refine mj_aload_n d_Pur_find_5 rfl ?_
  refine mj_get d_Pur_find_6 fd_Pur_18 rfl rfl ?_
  refine mj_virtual (d' := (1, 21)) (mc := 0) (ms := 0) (As := [_, _]) d_Pur_find_9 cw_Tag_placeOf q_364 q_365 q_366 (ci := 1) rfl rfl rfl rfl (mRoomB rfl) ?_
  refine s_Tag_placeOf rfl rfl (⟨rfl, rfl, hC.2.1, hA.2.1.2, by decide, by decide⟩) hA.2.1.1 (fun E => ?_) (fk_spec (by have := hA.2.1.2; omega)).1
  refine mj_iret d_Pur_find_12 rfl rfl (Nat.le_refl _) (Nat.le_refl _) ?_
  exact kP _ (CW_of hC)
theorem s_Pur_stage {L : Nat} {xs : Nat → Int32} {Post : Option Value → mHeap → Prop} {t r nm : List Nat} {cnt : Nat → Nat} {rc : Nat → List Nat} {rk : Nat → Nat} {co cu tr an sg am pv : Nat} {tl h : mHeap}  (hA : AI t r nm cnt rc rk co cu tr an sg am pv) (hW : CW t r nm cnt rc rk co cu tr an sg am pv tl h) (kP : ∀ h', CW t r nm cnt rc rk co cu tr an sg am pv tl h' → Post (some (.int (nI sg))) h') : mMet M_Pur_stage L xs (0, 0) 0 0 [.ref 0] h Post := by
  obtain ⟨li, pd, tf, rf, lf, nf, pf, ef, fb, fs, fc, frk, fw, ff, fx, ft, hC, rfl⟩ := hW
  refine mMet_of rfl (Nat.le_of_ble_eq_true rfl) ?_
  refine mj_aload_n d_Pur_stage_0 rfl ?_
  refine mj_get d_Pur_stage_1 fd_Pur_34 rfl rfl ?_
  refine mj_get d_Pur_stage_4 fd_Pur_144 rfl rfl ?_
  refine mj_iret d_Pur_stage_7 rfl rfl (Nat.le_refl _) (Nat.le_refl _) ?_
  exact kP _ (CW_of hC)
theorem s_Pur_counter {L : Nat} {xs : Nat → Int32} {Post : Option Value → mHeap → Prop} {t r nm : List Nat} {cnt : Nat → Nat} {rc : Nat → List Nat} {rk : Nat → Nat} {co cu tr an sg am pv : Nat} {tl h : mHeap}  (hA : AI t r nm cnt rc rk co cu tr an sg am pv) (hW : CW t r nm cnt rc rk co cu tr an sg am pv tl h) (kP : ∀ h', CW t r nm cnt rc rk co cu tr an sg am pv tl h' → Post (some (.int (nI cu))) h') : mMet M_Pur_counter L xs (0, 0) 0 0 [.ref 0] h Post := by
  obtain ⟨li, pd, tf, rf, lf, nf, pf, ef, fb, fs, fc, frk, fw, ff, fx, ft, hC, rfl⟩ := hW
  refine mMet_of rfl (Nat.le_of_ble_eq_true rfl) ?_
  refine mj_aload_n d_Pur_counter_0 rfl ?_
  refine mj_get d_Pur_counter_1 fd_Pur_34 rfl rfl ?_
  refine mj_get d_Pur_counter_4 fd_Pur_91 rfl rfl ?_
  refine mj_iret d_Pur_counter_7 rfl rfl (Nat.le_refl _) (Nat.le_refl _) ?_
  exact kP _ (CW_of hC)
theorem s_Pur_tries {L : Nat} {xs : Nat → Int32} {Post : Option Value → mHeap → Prop} {t r nm : List Nat} {cnt : Nat → Nat} {rc : Nat → List Nat} {rk : Nat → Nat} {co cu tr an sg am pv : Nat} {tl h : mHeap}  (hA : AI t r nm cnt rc rk co cu tr an sg am pv) (hW : CW t r nm cnt rc rk co cu tr an sg am pv tl h) (kP : ∀ h', CW t r nm cnt rc rk co cu tr an sg am pv tl h' → Post (some (.int (nI tr))) h') : mMet M_Pur_tries L xs (0, 0) 0 0 [.ref 0] h Post := by
  obtain ⟨li, pd, tf, rf, lf, nf, pf, ef, fb, fs, fc, frk, fw, ff, fx, ft, hC, rfl⟩ := hW
  refine mMet_of rfl (Nat.le_of_ble_eq_true rfl) ?_
  refine mj_aload_n d_Pur_tries_0 rfl ?_
  refine mj_get d_Pur_tries_1 fd_Pur_34 rfl rfl ?_
  refine mj_get d_Pur_tries_4 fd_Pur_88 rfl rfl ?_
  refine mj_iret d_Pur_tries_7 rfl rfl (Nat.le_refl _) (Nat.le_refl _) ?_
  exact kP _ (CW_of hC)
theorem s_Pur_code {L : Nat} {xs : Nat → Int32} {Post : Option Value → mHeap → Prop} {t r nm : List Nat} {cnt : Nat → Nat} {rc : Nat → List Nat} {rk : Nat → Nat} {co cu tr an sg am pv : Nat} {tl h : mHeap} {v : Int32} (hA : AI t r nm cnt rc rk co cu tr an sg am pv) (hW : CW t r nm cnt rc rk co cu tr an sg am pv tl h) (kF : (¬ ∃ n : Nat, n ≤ 9999 ∧ v = nI n) → ∀ h', CW t r nm cnt rc rk co cu tr an sg am pv tl h' → Post (some (.int (nI 0))) h') (kT : ∀ n : Nat, n ≤ 9999 → v = nI n → ∀ h', CW t r nm cnt rc rk n cu 3 an sg am pv tl h' → Post (some (.int (nI 1))) h') : mMet M_Pur_code L xs (0, 0) 0 0 [.ref 0, .int v] h Post := by
  obtain ⟨li, pd, tf, rf, lf, nf, pf, ef, fb, fs, fc, frk, fw, ff, fx, ft, hC, rfl⟩ := hW
  refine mMet_of rfl (Nat.le_of_ble_eq_true rfl) ?_
  refine mj_iload_n d_Pur_code_0 rfl ?_
  refine mj_iflt d_Pur_code_1 11 rfl (fun c_1 => ?_) (fun c_1 => ?_)
  · refine mj_iconst d_Pur_code_11 (nI 0) (by decide) ?_
    refine mj_iret d_Pur_code_12 rfl (by decide) (Nat.le_refl _) (Nat.le_refl _) ?_
    refine kF (fun z => ?_) _ (CW_of hC)
    obtain ⟨n, z1, z2⟩ := z
    first
      | exact nI_pos (n := n) (by omega) (by rw [← z2]; exact c_1)
      | exact c_8 (by rw [z2]; exact (nI_leI (by omega) (by decide)).mpr z1)
  · refine mj_iload_n d_Pur_code_4 rfl ?_
    refine mj_sipush d_Pur_code_5 (nI 9999) (by decide) ?_
    refine mj_icmple d_Pur_code_8 13 rfl (fun c_8 => ?_) (fun c_8 => ?_)
    · obtain ⟨n, hn, rfl⟩ := nI_of c_1
      have hn9 := (nI_leI hn (by decide)).mp c_8
      refine mj_aload_n d_Pur_code_13 rfl ?_
      refine mj_get d_Pur_code_14 fd_Pur_34 rfl rfl ?_
      refine mj_iload_n d_Pur_code_17 rfl ?_
      refine mj_put d_Pur_code_18 fd_Pur_84 ft_Crd_3 rfl (Nat.le_of_ble_eq_true rfl) rfl rfl ?_
      refine mj_aload_n d_Pur_code_21 rfl ?_
      refine mj_get d_Pur_code_22 fd_Pur_34 rfl rfl ?_
      refine mj_iconst d_Pur_code_25 (nI 3) (by decide) ?_
      refine mj_put d_Pur_code_26 fd_Pur_88 ft_Crd_5 rfl (Nat.le_of_ble_eq_true rfl) rfl rfl ?_
      refine mj_iconst d_Pur_code_29 (nI 1) (by decide) ?_
      refine mj_iret d_Pur_code_30 rfl (by decide) (Nat.le_refl _) (Nat.le_refl _) ?_
      exact kT n hn9 rfl _ (CW_of hC)
    · refine mj_iconst d_Pur_code_11 (nI 0) (by decide) ?_
      refine mj_iret d_Pur_code_12 rfl (by decide) (Nat.le_refl _) (Nat.le_refl _) ?_
      refine kF (fun z => ?_) _ (CW_of hC)
      obtain ⟨n, z1, z2⟩ := z
      first
        | exact nI_pos (n := n) (by omega) (by rw [← z2]; exact c_1)
        | exact c_8 (by rw [z2]; exact (nI_leI (by omega) (by decide)).mpr z1)
theorem s_Pur_advance {L : Nat} {xs : Nat → Int32} {Post : Option Value → mHeap → Prop} {t r nm : List Nat} {cnt : Nat → Nat} {rc : Nat → List Nat} {rk : Nat → Nat} {co cu tr an sg am pv : Nat} {tl h : mHeap} {v : Int32} (hA : AI t r nm cnt rc rk co cu tr an sg am pv) (hW : CW t r nm cnt rc rk co cu tr an sg am pv tl h) (kF : (¬ ∃ n : Nat, n ≤ 65535 ∧ cu ≤ n ∧ v = nI n) → ∀ h', CW t r nm cnt rc rk co cu tr an sg am pv tl h' → Post (some (.int (nI 0))) h') (kT : ∀ n : Nat, n ≤ 65535 → cu ≤ n → v = nI n → ∀ h', CW t r nm cnt rc rk co n tr an sg am pv tl h' → Post (some (.int (nI 1))) h') : mMet M_Pur_advance L xs (0, 0) 0 0 [.ref 0, .int v] h Post := by
  obtain ⟨li, pd, tf, rf, lf, nf, pf, ef, fb, fs, fc, frk, fw, ff, fx, ft, hC, rfl⟩ := hW
  refine mMet_of rfl (Nat.le_of_ble_eq_true rfl) ?_
  have hcu := hA.2.2.2.2.2.2.1
  refine mj_iload_n d_Pur_advance_0 rfl ?_
  refine mj_aload_n d_Pur_advance_1 rfl ?_
  refine mj_get d_Pur_advance_2 fd_Pur_34 rfl rfl ?_
  refine mj_get d_Pur_advance_5 fd_Pur_91 rfl rfl ?_
  refine mj_icmplt d_Pur_advance_8 17 rfl (fun c_8 => ?_) (fun c_8 => ?_)
  · refine mj_iconst d_Pur_advance_17 (nI 0) (by decide) ?_
    refine mj_iret d_Pur_advance_18 rfl (by decide) (Nat.le_refl _) (Nat.le_refl _) ?_
    refine kF (fun z => ?_) _ (CW_of hC)
    obtain ⟨n, z1, z2, z3⟩ := z
    first
      | (rw [z3, nI_ltI (by omega) (by omega)] at c_8; omega)
      | exact c_14 (by rw [z3]; exact (nI_leI (by omega) (by decide)).mpr z1)
  · refine mj_iload_n d_Pur_advance_11 rfl ?_
    refine mj_ldc d_Pur_advance_12 (nI 65535) q_394 ?_
    refine mj_icmple d_Pur_advance_14 19 rfl (fun c_14 => ?_) (fun c_14 => ?_)
    · have hn0 : ¬ v < 0 := fun z => c_8 (by rw [Int32.lt_iff_toInt_lt] at z ⊢; rw [nI_toInt (by omega)]; rw [Int32.toInt_zero] at z; omega)
      obtain ⟨n, hn, rfl⟩ := nI_of hn0
      have h1 := (nI_leI hn (by decide)).mp c_14
      rw [nI_ltI hn (by omega)] at c_8
      refine mj_aload_n d_Pur_advance_19 rfl ?_
      refine mj_get d_Pur_advance_20 fd_Pur_34 rfl rfl ?_
      refine mj_iload_n d_Pur_advance_23 rfl ?_
      refine mj_put d_Pur_advance_24 fd_Pur_91 ft_Crd_4 rfl (Nat.le_of_ble_eq_true rfl) rfl rfl ?_
      refine mj_iconst d_Pur_advance_27 (nI 1) (by decide) ?_
      refine mj_iret d_Pur_advance_28 rfl (by decide) (Nat.le_refl _) (Nat.le_refl _) ?_
      exact kT n h1 (by omega) rfl _ (CW_of hC)
    · refine mj_iconst d_Pur_advance_17 (nI 0) (by decide) ?_
      refine mj_iret d_Pur_advance_18 rfl (by decide) (Nat.le_refl _) (Nat.le_refl _) ?_
      refine kF (fun z => ?_) _ (CW_of hC)
      obtain ⟨n, z1, z2, z3⟩ := z
      first
        | (rw [z3, nI_ltI (by omega) (by omega)] at c_8; omega)
        | exact c_14 (by rw [z3]; exact (nI_leI (by omega) (by decide)).mpr z1)
theorem s_Pur_keep {L : Nat} {xs : Nat → Int32} {Post : Option Value → mHeap → Prop} {t r nm : List Nat} {cnt : Nat → Nat} {rc : Nat → List Nat} {rk : Nat → Nat} {co cu tr an sg am pv : Nat} {tl h : mHeap} {v : Int32} (hA : AI t r nm cnt rc rk co cu tr an sg am pv) (hW : CW t r nm cnt rc rk co cu tr an sg am pv tl h) (kF : (¬ ∃ k : Nat, k < 4 ∧ v = nI (k + 1) ∧ cnt k < 3 ∧ 1 ≤ t.length ∧ t.length ≤ 30) → ∀ h', CW t r nm cnt rc rk co cu tr an sg am pv tl h' → Post (some (.int (-1))) h') (kT : ∀ k : Nat, k < 4 → v = nI (k + 1) → cnt k < 3 → (1 ≤ t.length ∧ t.length ≤ 30) → ∀ h', CW ([]) r nm (va_up cnt k (cnt k + 1)) (va_up rc (3 * k + cnt k) t) rk co cu tr an sg am pv tl h' → Post (some (.int (nI (cnt k + 1)))) h') : mMet M_Pur_keep L xs (2, 45) 0 0 [.ref 0, .int v] h Post := by
  obtain ⟨li, pd, tf, rf, lf, nf, pf, ef, fb, fs, fc, frk, fw, ff, fx, ft, hC, rfl⟩ := hW
  refine mMet_of rfl (Nat.le_of_ble_eq_true rfl) ?_
  refine mj_aload_n d_Pur_keep_0 rfl ?_
  refine mj_get d_Pur_keep_1 fd_Pur_34 rfl rfl ?_
  refine mj_get d_Pur_keep_4 fd_Pur_61 rfl rfl ?_
  refine mj_iload_n d_Pur_keep_7 rfl ?_
  refine mj_aload_n d_Pur_keep_8 rfl ?_
  refine mj_get d_Pur_keep_9 fd_Pur_14 rfl rfl ?_
  refine mj_virtual (d' := (1, 21)) (mc := 0) (ms := 0) (As := [_, _]) d_Pur_keep_12 cw_Fil_store q_374 q_375 q_376 (ci := 2) rfl rfl rfl rfl (mRoomB rfl) ?_
  refine s_Fil_store rfl rfl rfl rfl hC.2.2.2.2.2.1 (⟨rfl, rfl, hC.1, hA.1.2, by decide, by decide⟩) (fun z => ?_) (fun k z1 z2 z3 z4 g h1 h2 => ?_)
  · refine mj_ifneN d_Pur_keep_15 20 rfl (by omega) (fun c_15 => ?_) (fun c_15 => ?_)
    · omega
    · refine mj_iconst d_Pur_keep_18 (-1) (by decide) ?_
      refine mj_iret d_Pur_keep_19 rfl rfl (Nat.le_refl _) (Nat.le_refl _) ?_
      exact kF z _ (CW_of hC)
  · refine mj_ifneN d_Pur_keep_15 20 rfl (by omega) (fun c_15 => ?_) (fun c_15 => ?_)
    · refine mj_aload_n d_Pur_keep_20 rfl ?_
      refine mj_get d_Pur_keep_21 fd_Pur_14 rfl rfl ?_
      refine mj_virtual (d' := (0, 0)) (mc := 0) (ms := 0) (As := []) d_Pur_keep_24 cw_Row_clear q_207 q_208 q_209 (ci := 0) rfl rfl rfl rfl (mRoomB rfl) ?_
      refine s_Row_clear (⟨rfl, rfl, hC.1, hA.1.2, by decide, by decide⟩) ?_
      refine mj_aload_n d_Pur_keep_27 rfl ?_
      refine mj_get d_Pur_keep_28 fd_Pur_34 rfl rfl ?_
      refine mj_get d_Pur_keep_31 fd_Pur_61 rfl rfl ?_
      refine mj_iload_n d_Pur_keep_34 rfl ?_
      refine mj_virtual (d' := (0, 0)) (mc := 0) (ms := 0) (As := [_]) d_Pur_keep_35 cw_Fil_count q_380 q_293 q_294 (ci := 2) rfl rfl rfl rfl (mRoomB rfl) ?_
      subst z2
      refine s_Fil_count (cnt := va_up cnt k (cnt k + 1)) rfl rfl (FR_keep hC.2.2.2.2.2.1 z1 z3 z4 hA.1.1 h1 h2).1 z1 ?_
      refine mj_iret d_Pur_keep_38 rfl rfl (Nat.le_refl _) (Nat.le_refl _) ?_
      have e : va_up cnt k (cnt k + 1) k = cnt k + 1 := by simp [va_up]
      rw [e]
      exact kT k z1 rfl z3 z4 _ (CW_of (tf := tf) ⟨(fun j hj => by cases hj), hC.2.1, hC.2.2.1, hC.2.2.2.1, hC.2.2.2.2.1, FR_keep hC.2.2.2.2.2.1 z1 z3 z4 hA.1.1 h1 h2, hC.2.2.2.2.2.2⟩)
    · omega
theorem s_Pur_key {L : Nat} {xs : Nat → Int32} {Post : Option Value → mHeap → Prop} {t r nm : List Nat} {cnt : Nat → Nat} {rc : Nat → List Nat} {rk : Nat → Nat} {co cu tr an sg am pv : Nat} {tl h : mHeap} {a b : Int64} (hA : AI t r nm cnt rc rk co cu tr an sg am pv) (hW : CW t r nm cnt rc rk co cu tr an sg am pv tl h) (kP : ∀ h', CW t r nm cnt rc (rkF (kbF a b)) co cu tr an sg am pv tl h' → Post none h') : mMet M_Pur_key L xs (4, 108) 0 0 [.ref 0, .long a, .long b] h Post := by
  obtain ⟨li, pd, tf, rf, lf, nf, pf, ef, fb, fs, fc, frk, fw, ff, fx, ft, hC, rfl⟩ := hW
  refine mMet_of rfl (Nat.le_of_ble_eq_true rfl) ?_
  refine mj_aload_n d_Pur_key_0 rfl ?_
  refine mj_get d_Pur_key_1 fd_Pur_34 rfl rfl ?_
  refine mj_get d_Pur_key_4 fd_Pur_74 rfl rfl ?_
  refine mj_lload_n d_Pur_key_7 rfl ?_
  refine mj_lload_n d_Pur_key_8 rfl ?_
  refine mj_virtual (d' := (3, 83)) (mc := 0) (ms := 0) (As := [_, _]) d_Pur_key_9 cw_Sea_takeKey q_385 q_75 q_76 (ci := 3) rfl rfl rfl rfl (mRoomB rfl) ?_
  refine s_Sea_takeKey rfl rfl rfl rfl rfl rfl (fun frk2 f0 t2 f2 fw2 ff2 k1 k2 k3 => ?_)
  refine mj_vret d_Pur_key_12 rfl (Nat.le_refl _) (Nat.le_refl _) ?_
  exact kP _ (CW_of ⟨hC.1, hC.2.1, hC.2.2.1, hC.2.2.2.1, hC.2.2.2.2.1, hC.2.2.2.2.2.1, k1, k2, k3⟩)
theorem s_Pur_seal {L : Nat} {xs : Nat → Int32} {Post : Option Value → mHeap → Prop} {t r nm : List Nat} {cnt : Nat → Nat} {rc : Nat → List Nat} {rk : Nat → Nat} {co cu tr an sg am pv : Nat} {tl h : mHeap} {v : Int32} (hA : AI t r nm cnt rc rk co cu tr an sg am pv) (hW : CW t r nm cnt rc rk co cu tr an sg am pv tl h) (kF : (¬ ∃ n : Nat, n < 16 ∧ v = nI n) → ∀ h', CW t r nm cnt rc rk co cu tr an sg am pv tl h' → Post (some (.int (-1))) h') (kT : ∀ n : Nat, n < 16 → v = nI n → ∀ h', CW t r nm cnt rc rk co cu tr an sg am pv tl h' → Post (some (.int (nI (sealF rk t n)))) h') : mMet M_Pur_seal L xs (4, 111) 0 0 [.ref 0, .int v] h Post := by
  obtain ⟨li, pd, tf, rf, lf, nf, pf, ef, fb, fs, fc, frk, fw, ff, fx, ft, hC, rfl⟩ := hW
  refine mMet_of rfl (Nat.le_of_ble_eq_true rfl) ?_
  refine mj_iload_n d_Pur_seal_0 rfl ?_
  refine mj_iflt d_Pur_seal_1 10 rfl (fun c_1 => ?_) (fun c_1 => ?_)
  · refine mj_iconst d_Pur_seal_10 (-1) (by decide) ?_
    refine mj_iret d_Pur_seal_11 rfl rfl (Nat.le_refl _) (Nat.le_refl _) ?_
    refine kF (fun z => ?_) _ (CW_of hC)
    obtain ⟨n, z1, z2⟩ := z
    first
      | exact nI_pos (n := n) (by omega) (by rw [← z2]; exact c_1)
      | exact c_7 (by rw [z2]; exact (nI_ltI (by omega) (by decide)).mpr z1)
  · refine mj_iload_n d_Pur_seal_4 rfl ?_
    refine mj_bipush d_Pur_seal_5 (nI 16) (by decide) ?_
    refine mj_icmplt d_Pur_seal_7 12 rfl (fun c_7 => ?_) (fun c_7 => ?_)
    · obtain ⟨n, hn, rfl⟩ := nI_of c_1
      have hn9 := (nI_ltI hn (by decide)).mp c_7
      refine mj_aload_n d_Pur_seal_12 rfl ?_
      refine mj_get d_Pur_seal_13 fd_Pur_34 rfl rfl ?_
      refine mj_get d_Pur_seal_16 fd_Pur_74 rfl rfl ?_
      refine mj_aload_n d_Pur_seal_19 rfl ?_
      refine mj_get d_Pur_seal_20 fd_Pur_14 rfl rfl ?_
      refine mj_virtual (d' := (3, 83)) (mc := 0) (ms := 0) (As := [_]) d_Pur_seal_23 cw_Sea_run q_399 q_340 q_341 (ci := 3) rfl rfl rfl rfl (mRoomB rfl) ?_
      refine s_Sea_run rfl rfl rfl rfl rfl rfl (⟨rfl, rfl, hC.1, hA.1.2, by decide, by decide⟩) (by decide) (by decide) (by decide) (by decide) hC.2.2.2.2.2.2.1 hC.2.2.2.2.2.2.2.1 hC.2.2.2.2.2.2.2.2 hA.2.2.2.2.1 hA.1.1 hA.1.2 (fun t1 f1 hf1 => ?_)
      rw [show sP (mkC t r li nm pd tf rf lf nf pf ef fb fs fc frk fw ff fx ft co cu tr an sg am pv ++ tl) t1 f1 = (mkC t r li nm pd tf rf lf nf pf ef fb fs fc frk fw ff f1 t1 co cu tr an sg am pv ++ tl) from rfl]
      refine mj_aload_n d_Pur_seal_26 rfl ?_
      refine mj_get d_Pur_seal_27 fd_Pur_34 rfl rfl ?_
      refine mj_get d_Pur_seal_30 fd_Pur_74 rfl rfl ?_
      refine mj_iload_n d_Pur_seal_33 rfl ?_
      refine mj_virtual (d' := (0, 0)) (mc := 0) (ms := 0) (As := [_]) d_Pur_seal_34 cw_Sea_byteAt q_400 q_348 q_349 (ci := 3) rfl rfl rfl rfl (mRoomB rfl) ?_
      refine s_Sea_byteAt rfl rfl hn9 ?_
      rw [hf1 n hn9]
      refine mj_iret d_Pur_seal_37 rfl rfl (Nat.le_refl _) (Nat.le_refl _) ?_
      exact kT n hn9 rfl _ (CW_of hC)
    · refine mj_iconst d_Pur_seal_10 (-1) (by decide) ?_
      refine mj_iret d_Pur_seal_11 rfl rfl (Nat.le_refl _) (Nat.le_refl _) ?_
      refine kF (fun z => ?_) _ (CW_of hC)
      obtain ⟨n, z1, z2⟩ := z
      first
        | exact nI_pos (n := n) (by omega) (by rw [← z2]; exact c_1)
        | exact c_7 (by rw [z2]; exact (nI_ltI (by omega) (by decide)).mpr z1)
