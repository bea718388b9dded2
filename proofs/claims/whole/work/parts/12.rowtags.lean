/-- the bytes of a tag -/
def tagB (t : Nat) : List Nat := if t ≤ 255 then [t] else [t / 256, t % 256]
theorem i_sh8 {t : Nat} (h : t < 65536) : nI t >>> ((8 : Int32) &&& 31) = nI (t / 256) := by
  rw [pk_shrN (by omega) _ 8 (by decide)]
theorem i_and255 {t : Nat} (h : t < 2 ^ 32) : nI t &&& 255 = nI (t % 256) := by
  rw [i_255, pk_tn h]
theorem s_Row_openTag {L : Nat} {xs : Nat → Int32} {Post : Option Value → mHeap → Prop} {h : mHeap} {k k' cap : Nat} {l : List Nat} {f : Nat → Int32} (hr : RA h k k' cap l f) {t : Nat} (ht : t < 65536) (hc : l.length + 3 ≤ cap) (kP : ∀ f', Rf (l ++ tagB t ++ [0]) f' → Post (some (.int (nI (l ++ tagB t ++ [0]).length))) (rPut h k k' cap (l ++ tagB t ++ [0]) f')) : mMet M_Row_openTag L xs (1, 21) 0 0 [.ref k, .int (nI t)] h Post := by
  refine mMet_of rfl (Nat.le_of_ble_eq_true rfl) ?_
  have hc1 := hr.2.2.2.2.1
  refine mj_iload_n d_Row_openTag_0 rfl ?_
  refine mj_sipush d_Row_openTag_1 255 (by decide) ?_
  refine mj_icmple d_Row_openTag_4 16 rfl (fun c_4 => ?_) (fun c_4 => ?_)
  · have c4 : t ≤ 255 := (nI_leI (b := 255) (by omega) (by omega)).mp c_4
    refine mj_aload_n d_Row_openTag_16 rfl ?_
    refine mj_iload_n d_Row_openTag_17 rfl ?_
    refine mj_sipush d_Row_openTag_18 255 (by decide) ?_
    refine mj_iand d_Row_openTag_21 ?_
    rw [i_and255 (by omega), show t % 256 = t by omega]
    refine mj_virtual (d' := (0, 0)) (mc := 0) (ms := 0) (As := [_]) d_Row_openTag_22 cw_Row_add q_136 q_137 q_138 (ci := 0) rfl hr.1 rfl rfl (mRoomB rfl) ?_
    refine s_Row_add hr (fun z => by omega) (fun _ g2 hg2 => ?_)
    refine mj_pop d_Row_openTag_25 rfl ?_
    refine mj_aload_n d_Row_openTag_26 rfl ?_
    refine mj_iconst d_Row_openTag_27 0 (by decide) ?_
    rw [show (0 : Int32) = nI 0 from rfl]
    refine mj_virtual (d' := (0, 0)) (mc := 0) (ms := 0) (As := [_]) d_Row_openTag_28 cw_Row_add q_136 q_137 q_138 (ci := 0) rfl (RA_put hr hg2 (by simp; omega)).1 rfl rfl (mRoomB rfl) ?_
    refine s_Row_add (RA_put hr hg2 (by simp; omega)) (fun z => by simp at z; omega) (fun _ g3 hg3 => ?_)
    rw [rPut_rPut hr.2.2.2.2.2]
    refine mj_pop d_Row_openTag_31 rfl ?_
    refine mj_aload_n d_Row_openTag_32 rfl ?_
    refine mj_get d_Row_openTag_33 fd_Row_9 (RA_put hr hg3 (by simp; omega)).1 rfl ?_
    refine mj_iret d_Row_openTag_36 rfl rfl (Nat.le_refl _) (Nat.le_refl _) ?_
    have e : l ++ [t] ++ [0] = l ++ tagB t ++ [0] := by
      rw [tagB, if_pos (by omega)]
    rw [e] at hg3 ⊢
    exact kP g3 hg3
  · have c4 : ¬ t ≤ 255 := fun z => c_4 ((nI_leI (b := 255) (by omega) (by omega)).mpr z)
    refine mj_aload_n d_Row_openTag_7 rfl ?_
    refine mj_iload_n d_Row_openTag_8 rfl ?_
    refine mj_bipush d_Row_openTag_9 8 (by decide) ?_
    refine mj_ishr d_Row_openTag_11 ?_
    rw [i_sh8 ht]
    refine mj_virtual (d' := (0, 0)) (mc := 0) (ms := 0) (As := [_]) d_Row_openTag_12 cw_Row_add q_136 q_137 q_138 (ci := 0) rfl hr.1 rfl rfl (mRoomB rfl) ?_
    refine s_Row_add hr (fun z => by omega) (fun _ g1 hg1 => ?_)
    refine mj_pop d_Row_openTag_15 rfl ?_
    refine mj_aload_n d_Row_openTag_16 rfl ?_
    refine mj_iload_n d_Row_openTag_17 rfl ?_
    refine mj_sipush d_Row_openTag_18 255 (by decide) ?_
    refine mj_iand d_Row_openTag_21 ?_
    rw [i_and255 (by omega)]
    refine mj_virtual (d' := (0, 0)) (mc := 0) (ms := 0) (As := [_]) d_Row_openTag_22 cw_Row_add q_136 q_137 q_138 (ci := 0) rfl (RA_put hr hg1 (by simp; omega)).1 rfl rfl (mRoomB rfl) ?_
    refine s_Row_add (RA_put hr hg1 (by simp; omega)) (fun z => by simp at z; omega) (fun _ g2 hg2 => ?_)
    rw [rPut_rPut hr.2.2.2.2.2]
    refine mj_pop d_Row_openTag_25 rfl ?_
    refine mj_aload_n d_Row_openTag_26 rfl ?_
    refine mj_iconst d_Row_openTag_27 0 (by decide) ?_
    rw [show (0 : Int32) = nI 0 from rfl]
    refine mj_virtual (d' := (0, 0)) (mc := 0) (ms := 0) (As := [_]) d_Row_openTag_28 cw_Row_add q_136 q_137 q_138 (ci := 0) rfl (RA_put hr hg2 (by simp; omega)).1 rfl rfl (mRoomB rfl) ?_
    refine s_Row_add (RA_put hr hg2 (by simp; omega)) (fun z => by simp at z; omega) (fun _ g3 hg3 => ?_)
    rw [rPut_rPut hr.2.2.2.2.2]
    refine mj_pop d_Row_openTag_31 rfl ?_
    refine mj_aload_n d_Row_openTag_32 rfl ?_
    refine mj_get d_Row_openTag_33 fd_Row_9 (RA_put hr hg3 (by simp; omega)).1 rfl ?_
    refine mj_iret d_Row_openTag_36 rfl rfl (Nat.le_refl _) (Nat.le_refl _) ?_
    have e : l ++ [t / 256] ++ [t % 256] ++ [0] = l ++ tagB t ++ [0] := by
      rw [tagB, if_neg (by omega)]; simp
    rw [e] at hg3 ⊢
    exact kP g3 hg3
theorem Rf_set {l : List Nat} {f : Nat → Int32} {i v : Nat} (h : Rf l f) : Rf (l.set i v) (upd f i (nI v)) := by
  intro j hj
  rw [List.length_set] at hj
  by_cases e : j = i
  · subst e
    rw [pk_us, List.getD_eq_getElem?_getD, List.getElem?_set_self hj]
    rfl
  · rw [pk_un e, h j hj, List.getD_eq_getElem?_getD, List.getD_eq_getElem?_getD, List.getElem?_set_ne (Ne.symm e)]
theorem s_Row_closeTag {L : Nat} {xs : Nat → Int32} {Post : Option Value → mHeap → Prop} {h : mHeap} {k k' cap : Nat} {l : List Nat} {f : Nat → Int32} (hr : RA h k k' cap l f) {g : Nat} (hg : 1 ≤ g ∧ g ≤ l.length) (kP : ∀ f', Rf (l.set (g - 1) (l.length - g)) f' → Post none (rPut h k k' cap (l.set (g - 1) (l.length - g)) f')) : mMet M_Row_closeTag L xs (0, 0) 0 0 [.ref k, .int (nI g)] h Post := by
  refine mMet_of rfl (Nat.le_of_ble_eq_true rfl) ?_
  have hcap := hr.2.2.2.1
  have hc1 := hr.2.2.2.2.1
  refine mj_iload_n d_Row_closeTag_0 rfl ?_
  refine mj_iconst d_Row_closeTag_1 1 (by decide) ?_
  refine mj_icmplt d_Row_closeTag_2 27 rfl (fun c_2 => ?_) (fun c_2 => ?_)
  · exact absurd ((nI_ltI (b := 1) (by omega) (by omega)).mp c_2) (by omega)
  · refine mj_iload_n d_Row_closeTag_5 rfl ?_
    refine mj_aload_n d_Row_closeTag_6 rfl ?_
    refine mj_get d_Row_closeTag_7 fd_Row_9 hr.1 rfl ?_
    refine mj_icmpgt d_Row_closeTag_10 27 rfl (fun c_10 => ?_) (fun c_10 => ?_)
    · exact absurd ((nI_ltI (by omega) (by omega)).mp c_10) (by omega)
    · refine mj_aload_n d_Row_closeTag_13 rfl ?_
      refine mj_get d_Row_closeTag_14 fd_Row_15 hr.1 rfl ?_
      refine mj_iload_n d_Row_closeTag_17 rfl ?_
      refine mj_iconst d_Row_closeTag_18 1 (by decide) ?_
      refine mj_isub d_Row_closeTag_19 ?_
      refine mj_aload_n d_Row_closeTag_20 rfl ?_
      refine mj_get d_Row_closeTag_21 fd_Row_9 hr.1 rfl ?_
      refine mj_iload_n d_Row_closeTag_24 rfl ?_
      refine mj_isub d_Row_closeTag_25 ?_
      rw [show (1 : Int32) = nI 1 from rfl, pk_sub (by omega), pk_sub (by omega)]
      refine mj_iast d_Row_closeTag_26 hr.2.1 (vp_in_nI (by omega) (by omega)) ?_
      refine mj_vret d_Row_closeTag_27 rfl (Nat.le_refl _) (Nat.le_refl _) ?_
      rw [nI_clamp (by omega)]
      have e := kP _ (Rf_set (i := g - 1) (v := l.length - g) hr.2.2.1)
      unfold rPut at e
      rw [show cRow k' (l.set (g - 1) (l.length - g)) = cRow k' l by unfold cRow; rw [List.length_set], set_same (k := k) (by rw [List.getElem?_set_ne (Ne.symm hr.2.2.2.2.2)]; exact hr.1)] at e
      exact e
theorem set_mid (a b : List Nat) (x v : Nat) : (a ++ [x] ++ b).set a.length v = a ++ [v] ++ b := by
  rw [List.append_assoc, List.set_append_right _ _ (Nat.le_refl _), Nat.sub_self]
  simp
theorem s_Row_addTagged {L : Nat} {xs : Nat → Int32} {Post : Option Value → mHeap → Prop} {h : mHeap} {k k' cap : Nat} {l : List Nat} {f : Nat → Int32} (hr : RA h k k' cap l f) {t c : Nat} {n : Int64} (ht : t < 65536) (h8 : c ≤ 8) (hc : l.length + 3 + c ≤ cap) (kP : ∀ f', Rf (l ++ tagB t ++ [c] ++ beL n c) f' → Post none (rPut h k k' cap (l ++ tagB t ++ [c] ++ beL n c) f')) : mMet M_Row_addTagged L xs (2, 45) 0 0 [.ref k, .int (nI t), .long n, .int (nI c)] h Post := by
  refine mMet_of rfl (Nat.le_of_ble_eq_true rfl) ?_
  have hlen : (tagB t).length ≤ 2 := by unfold tagB; split <;> simp
  refine mj_aload_n d_Row_addTagged_0 rfl ?_
  refine mj_iload_n d_Row_addTagged_1 rfl ?_
  refine mj_virtual (d' := (1, 21)) (mc := 0) (ms := 0) (As := [_]) d_Row_addTagged_2 cw_Row_openTag q_281 q_265 q_266 (ci := 0) rfl hr.1 rfl rfl (mRoomB rfl) ?_
  refine s_Row_openTag hr ht (by omega) (fun g1 hg1 => ?_)
  refine mj_istore d_Row_addTagged_5 (by decide) ?_
  dsimp only [mSt1, mSt2, mKill, Nat.reduceAdd]
  refine mj_aload_n d_Row_addTagged_7 rfl ?_
  refine mj_lload_n d_Row_addTagged_8 rfl ?_
  refine mj_iload d_Row_addTagged_9 rfl ?_
  refine mj_virtual (d' := (1, 21)) (mc := 0) (ms := 0) (As := [_, _]) d_Row_addTagged_11 cw_Row_addNumber q_282 q_133 q_134 (ci := 0) rfl (RA_put hr hg1 (by simp [hlen]; omega)).1 rfl rfl (mRoomB rfl) ?_
  refine s_Row_addNumber (RA_put hr hg1 (by simp [hlen]; omega)) (by simp [hlen]; omega) h8 (fun g2 hg2 => ?_)
  rw [rPut_rPut hr.2.2.2.2.2]
  refine mj_aload_n d_Row_addTagged_14 rfl ?_
  refine mj_iload d_Row_addTagged_15 rfl ?_
  refine mj_virtual (d' := (0, 0)) (mc := 0) (ms := 0) (As := [_]) d_Row_addTagged_17 cw_Row_closeTag q_283 q_273 q_274 (ci := 0) rfl (RA_put hr hg2 (by simp [hlen, beL_len]; omega)).1 rfl rfl (mRoomB rfl) ?_
  refine s_Row_closeTag (RA_put hr hg2 (by simp [hlen, beL_len]; omega)) (by simp [hlen, beL_len]; omega) (fun g3 hg3 => ?_)
  rw [rPut_rPut hr.2.2.2.2.2]
  have e : (l ++ tagB t ++ [0] ++ beL n c).set ((l ++ tagB t ++ [0]).length - 1) ((l ++ tagB t ++ [0] ++ beL n c).length - (l ++ tagB t ++ [0]).length) = l ++ tagB t ++ [c] ++ beL n c := by
    have e1 : (l ++ tagB t ++ [0]).length - 1 = (l ++ tagB t).length := by simp
    rw [e1, set_mid]
    simp [beL_len]
    omega
  rw [e] at hg3 ⊢
  refine mj_vret d_Row_addTagged_20 rfl (Nat.le_refl _) (Nat.le_refl _) ?_
  exact kP g3 hg3
