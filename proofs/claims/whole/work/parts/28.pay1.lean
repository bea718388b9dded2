/-! PAYING -/
def headT (i p q c : Nat) : List Nat := [i / 256, i % 256, p, q] ++ (if 0 < c then [c] else [])
/-- a command sent to the card in a state -/
def snd8 (nm : List Nat) (cnt : Nat → Nat) (rc : Nat → List Nat) (rk : Nat → Nat) (co : Nat) (t : List Nat) (S : R8) : R8 := sendF t nm cnt rc rk co S.2.2.1 S.2.2.2.1 S.2.2.2.2.1 S.2.2.2.2.2.1 S.2.2.2.2.2.2.1 S.2.2.2.2.2.2.2
theorem headT_Bb {i p q c : Nat} (hi : i < 65536) (hp : p < 256) (hq : q < 256) (hc : c < 256) : Bb (headT i p q c) := by
  unfold headT
  refine Bb_app (Bb_cons (by omega) (Bb_cons (by omega) (Bb_cons hp (Bb_cons hq Bb_nil)))) ?_
  split
  · exact Bb_cons hc Bb_nil
  · exact Bb_nil
theorem headT_len (i p q c : Nat) : (headT i p q c).length ≤ 5 := by unfold headT; split <;> simp
theorem AI_t {t t' r nm : List Nat} {cnt : Nat → Nat} {rc : Nat → List Nat} {rk : Nat → Nat} {co cu tr an sg am pv : Nat} (hA : AI t r nm cnt rc rk co cu tr an sg am pv) (hb : Bb t') (hl : t'.length ≤ 40) : AI t' r nm cnt rc rk co cu tr an sg am pv := ⟨⟨hb, hl⟩, hA.2⟩
theorem c_obey {L : Nat} {xs : Nat → Int32} {Post : Option Value → mHeap → Prop} {li t r nm : List Nat} {cnt : Nat → Nat} {rc : Nat → List Nat} {rk : Nat → Nat} {co cu tr an sg am pv : Nat} {tl h : mHeap} (hA : AI t r nm cnt rc rk co cu tr an sg am pv) (hW : CWl li t r nm cnt rc rk co cu tr an sg am pv tl h) (kP : ∀ (S : R8) (h' : mHeap), S = (sendF t nm cnt rc rk co cu tr an sg am pv) → CWl li [] S.2.1 nm cnt rc rk co S.2.2.1 S.2.2.2.1 S.2.2.2.2.1 S.2.2.2.2.2.1 S.2.2.2.2.2.2.1 S.2.2.2.2.2.2.2 tl h' → AI [] S.2.1 nm cnt rc rk co S.2.2.1 S.2.2.2.1 S.2.2.2.2.1 S.2.2.2.2.2.1 S.2.2.2.2.2.2.1 S.2.2.2.2.2.2.2 → S.1 < 65536 → Post (some (.int (nI S.1))) h') : mMet M_Crd_obey L xs (5, 141) 0 0 [.ref 9, .ref 1, .ref 3] h Post := by
  obtain ⟨pd, tf, rf, lf, nf, pf, ef, fb, fs, fc, frk, fw, ff, fx, ft, hC, rfl⟩ := hW
  have hi := send_inv hA
  exact s_Crd_obey hA hC (fun rf2 pd2 pf2 fx2 ft2 h1 h2 h3 => kP _ _ rfl (CWl_of (tf := tf) ⟨(fun j hj => by cases hj), h1, hC.2.2.1, hC.2.2.2.1, ⟨h2, h3⟩, hC.2.2.2.2.2⟩) hi.1 hi.2)
theorem cw0 {li t r nm : List Nat} {cnt : Nat → Nat} {rc : Nat → List Nat} {rk : Nat → Nat} {co cu tr an sg am pv : Nat} {tl h : mHeap} (hW : CWl li t r nm cnt rc rk co cu tr an sg am pv tl h) : h[0]? = some (.inr (5, [.ref 1, .ref 3, .ref 5, .ref 7, .ref 9])) := by
  obtain ⟨pd, tf, rf, lf, nf, pf, ef, fb, fs, fc, frk, fw, ff, fx, ft, hC, rfl⟩ := hW
  rfl
theorem cw9 {li t r nm : List Nat} {cnt : Nat → Nat} {rc : Nat → List Nat} {rk : Nat → Nat} {co cu tr an sg am pv : Nat} {tl h : mHeap} (hW : CWl li t r nm cnt rc rk co cu tr an sg am pv tl h) : h[9]? = some (cCrd co cu tr an sg am pv) := by
  obtain ⟨pd, tf, rf, lf, nf, pf, ef, fb, fs, fc, frk, fw, ff, fx, ft, hC, rfl⟩ := hW
  rfl
theorem cw1 {li t r nm : List Nat} {cnt : Nat → Nat} {rc : Nat → List Nat} {rk : Nat → Nat} {co cu tr an sg am pv : Nat} {tl h : mHeap} (hA : AI t r nm cnt rc rk co cu tr an sg am pv) (hW : CWl li t r nm cnt rc rk co cu tr an sg am pv tl h) : ∃ tf, RA h 1 2 40 t tf := by
  obtain ⟨pd, tf, rf, lf, nf, pf, ef, fb, fs, fc, frk, fw, ff, fx, ft, hC, rfl⟩ := hW
  exact ⟨tf, rfl, rfl, hC.1, hA.1.2, by decide, by decide⟩
theorem cw3 {li t r nm : List Nat} {cnt : Nat → Nat} {rc : Nat → List Nat} {rk : Nat → Nat} {co cu tr an sg am pv : Nat} {tl h : mHeap} (hA : AI t r nm cnt rc rk co cu tr an sg am pv) (hW : CWl li t r nm cnt rc rk co cu tr an sg am pv tl h) : ∃ rf, RA h 3 4 32 r rf := by
  obtain ⟨pd, tf, rf, lf, nf, pf, ef, fb, fs, fc, frk, fw, ff, fx, ft, hC, rfl⟩ := hW
  exact ⟨rf, rfl, rfl, hC.2.1, hA.2.1.2, by decide, by decide⟩
theorem cw5 {li t r nm : List Nat} {cnt : Nat → Nat} {rc : Nat → List Nat} {rk : Nat → Nat} {co cu tr an sg am pv : Nat} {tl h : mHeap} (hW : CWl li t r nm cnt rc rk co cu tr an sg am pv tl h) : ∃ lf, RA h 5 6 32 li lf := by
  obtain ⟨pd, tf, rf, lf, nf, pf, ef, fb, fs, fc, frk, fw, ff, fx, ft, hC, rfl⟩ := hW
  exact ⟨lf, rfl, rfl, hC.2.2.1.1, hC.2.2.1.2, by decide, by decide⟩
theorem cw10 {li t r nm : List Nat} {cnt : Nat → Nat} {rc : Nat → List Nat} {rk : Nat → Nat} {co cu tr an sg am pv : Nat} {tl h : mHeap} (hA : AI t r nm cnt rc rk co cu tr an sg am pv) (hW : CWl li t r nm cnt rc rk co cu tr an sg am pv tl h) : ∃ nf, RA h 10 11 7 nm nf := by
  obtain ⟨pd, tf, rf, lf, nf, pf, ef, fb, fs, fc, frk, fw, ff, fx, ft, hC, rfl⟩ := hW
  exact ⟨nf, rfl, rfl, hC.2.2.2.1, Nat.le_of_eq hA.2.2.1.2, by decide, by decide⟩
theorem cwt {li t r nm : List Nat} {cnt : Nat → Nat} {rc : Nat → List Nat} {rk : Nat → Nat} {co cu tr an sg am pv : Nat} {tl h : mHeap} {t' : List Nat} {g : Nat → Int32} (hW : CWl li t r nm cnt rc rk co cu tr an sg am pv tl h) (hg : Rf t' g) : CWl li t' r nm cnt rc rk co cu tr an sg am pv tl (rPut h 1 2 40 t' g) := by
  obtain ⟨pd, tf, rf, lf, nf, pf, ef, fb, fs, fc, frk, fw, ff, fx, ft, hC, rfl⟩ := hW
  exact CWl_of (tf := g) ⟨hg, hC.2⟩
theorem cwl {li t r nm : List Nat} {cnt : Nat → Nat} {rc : Nat → List Nat} {rk : Nat → Nat} {co cu tr an sg am pv : Nat} {tl h : mHeap} {l' : List Nat} {g : Nat → Int32} (hW : CWl li t r nm cnt rc rk co cu tr an sg am pv tl h) (hg : Rf l' g) (hl : l'.length ≤ 32) : CWl l' t r nm cnt rc rk co cu tr an sg am pv tl (rPut h 5 6 32 l' g) := by
  obtain ⟨pd, tf, rf, lf, nf, pf, ef, fb, fs, fc, frk, fw, ff, fx, ft, hC, rfl⟩ := hW
  exact CWl_of (lf := g) ⟨hC.1, hC.2.1, ⟨hg, hl⟩, hC.2.2.2⟩
theorem s_Pur_typeHead {L : Nat} {xs : Nat → Int32} {Post : Option Value → mHeap → Prop} {li t r nm : List Nat} {cnt : Nat → Nat} {rc : Nat → List Nat} {rk : Nat → Nat} {co cu tr an sg am pv : Nat} {tl h : mHeap} {i p q c : Nat} (hA : AI t r nm cnt rc rk co cu tr an sg am pv) (hW : CWl li t r nm cnt rc rk co cu tr an sg am pv tl h) (hi : i < 65536) (hc : c < 256) (kP : ∀ h', CWl li (headT i p q c) r nm cnt rc rk co cu tr an sg am pv tl h' → Post none h') : mMet M_Pur_typeHead L xs (2, 45) 0 0 [.ref 0, .int (nI i), .int (nI p), .int (nI q), .int (nI c)] h Post := by
  refine mMet_of rfl (Nat.le_of_ble_eq_true rfl) ?_
  obtain ⟨tf, hr⟩ := cw1 hA hW
  refine mj_aload_n d_Pur_typeHead_0 rfl ?_
  refine mj_get d_Pur_typeHead_1 fd_Pur_14 (cw0 hW) rfl ?_
  refine mj_virtual (d' := (0, 0)) (mc := 0) (ms := 0) (As := []) d_Pur_typeHead_4 cw_Row_clear q_207 q_208 q_209 (ci := 0) rfl hr.1 rfl rfl (mRoomB rfl) ?_
  refine s_Row_clear hr ?_
  have q0 : RA (rPut h 1 2 40 [] tf) 1 2 40 [] tf := RA_put hr (fun j hj => by cases hj) (by decide)
  refine mj_aload_n d_Pur_typeHead_7 rfl ?_
  refine mj_get d_Pur_typeHead_8 fd_Pur_14 ((rPut_get (by decide) (by decide)).trans (cw0 hW)) rfl ?_
  refine mj_iload_n d_Pur_typeHead_11 rfl ?_
  refine mj_i2l d_Pur_typeHead_12 ?_
  rw [nI_l (by omega)]
  refine mj_iconst d_Pur_typeHead_13 (nI 2) (by decide) ?_
  refine mj_virtual (d' := (1, 21)) (mc := 0) (ms := 0) (As := [_, _]) d_Pur_typeHead_14 cw_Row_addNumber q_430 q_133 q_134 (ci := 0) rfl q0.1 rfl rfl (mRoomB rfl) ?_
  refine s_Row_addNumber q0 (by decide) (by decide) (fun g1 hg1 => ?_)
  rw [rPut_rPut (by decide)]
  rw [beL_2 hi] at hg1 ⊢
  have q1 := RA_put hr hg1 (by simp)
  refine mj_aload_n d_Pur_typeHead_17 rfl ?_
  refine mj_get d_Pur_typeHead_18 fd_Pur_14 ((rPut_get (by decide) (by decide)).trans (cw0 hW)) rfl ?_
  refine mj_iload_n d_Pur_typeHead_21 rfl ?_
  refine mj_virtual (d' := (0, 0)) (mc := 0) (ms := 0) (As := [_]) d_Pur_typeHead_22 cw_Row_add q_198 q_137 q_138 (ci := 0) rfl q1.1 rfl rfl (mRoomB rfl) ?_
  refine s_Row_add q1 (fun z => by simp at z) (fun _ g2 hg2 => ?_)
  rw [rPut_rPut (by decide)]
  have q2 := RA_put hr hg2 (by simp)
  refine mj_pop d_Pur_typeHead_25 rfl ?_
  refine mj_aload_n d_Pur_typeHead_26 rfl ?_
  refine mj_get d_Pur_typeHead_27 fd_Pur_14 ((rPut_get (by decide) (by decide)).trans (cw0 hW)) rfl ?_
  refine mj_iload_n d_Pur_typeHead_30 rfl ?_
  refine mj_virtual (d' := (0, 0)) (mc := 0) (ms := 0) (As := [_]) d_Pur_typeHead_31 cw_Row_add q_198 q_137 q_138 (ci := 0) rfl q2.1 rfl rfl (mRoomB rfl) ?_
  refine s_Row_add q2 (fun z => by simp at z) (fun _ g3 hg3 => ?_)
  rw [rPut_rPut (by decide)]
  have q3 := RA_put hr hg3 (by simp)
  refine mj_pop d_Pur_typeHead_34 rfl ?_
  refine mj_iload d_Pur_typeHead_35 rfl ?_
  refine mj_ifleN d_Pur_typeHead_37 50 rfl (by omega) (fun c_37 => ?_) (fun c_37 => ?_)
  · refine mj_vret d_Pur_typeHead_50 rfl (Nat.le_refl _) (Nat.le_refl _) ?_
    first
      | (have e : headT i p q c = [] ++ [i / 256, i % 256] ++ [p] ++ [q] ++ [c] := by unfold headT; rw [if_pos (by omega)]; rfl
         rw [e] at kP; exact kP _ (cwt hW hg4))
      | (have e : headT i p q c = [] ++ [i / 256, i % 256] ++ [p] ++ [q] := by unfold headT; rw [if_neg (by omega)]; rfl
         rw [e] at kP; exact kP _ (cwt hW hg3))
  · refine mj_aload_n d_Pur_typeHead_40 rfl ?_
    refine mj_get d_Pur_typeHead_41 fd_Pur_14 ((rPut_get (by decide) (by decide)).trans (cw0 hW)) rfl ?_
    refine mj_iload d_Pur_typeHead_44 rfl ?_
    refine mj_virtual (d' := (0, 0)) (mc := 0) (ms := 0) (As := [_]) d_Pur_typeHead_46 cw_Row_add q_198 q_137 q_138 (ci := 0) rfl q3.1 rfl rfl (mRoomB rfl) ?_
    refine s_Row_add q3 (fun z => by simp at z) (fun _ g4 hg4 => ?_)
    rw [rPut_rPut (by decide)]
    refine mj_pop d_Pur_typeHead_49 rfl ?_
    refine mj_vret d_Pur_typeHead_50 rfl (Nat.le_refl _) (Nat.le_refl _) ?_
    first
      | (have e : headT i p q c = [] ++ [i / 256, i % 256] ++ [p] ++ [q] ++ [c] := by unfold headT; rw [if_pos (by omega)]; rfl
         rw [e] at kP; exact kP _ (cwt hW hg4))
      | (have e : headT i p q c = [] ++ [i / 256, i % 256] ++ [p] ++ [q] := by unfold headT; rw [if_neg (by omega)]; rfl
         rw [e] at kP; exact kP _ (cwt hW hg3))
def slT (w : Nat) (a : Int64) (n : Int32) (c : Nat) : List Nat := headT 32942 w 0 c ++ (beL a 6 ++ beL n.toInt64 4)
theorem slT_len (w : Nat) (a : Int64) (n : Int32) (c : Nat) : (slT w a n c).length ≤ 15 := by
  have := headT_len 32942 w 0 c
  unfold slT
  rw [List.length_append, List.length_append, beL_len, beL_len]
  omega
theorem slT_Bb {w c : Nat} {a : Int64} {n : Int32} (hw : w < 256) (hc : c < 256) : Bb (slT w a n c) := Bb_app (headT_Bb (by decide) hw (by decide) hc) (Bb_app (beL_lt _ _) (beL_lt _ _))
theorem s_Pur_typeSeal {L : Nat} {xs : Nat → Int32} {Post : Option Value → mHeap → Prop} {li t r nm : List Nat} {cnt : Nat → Nat} {rc : Nat → List Nat} {rk : Nat → Nat} {co cu tr an sg am pv : Nat} {tl h : mHeap} {w c : Nat} {a : Int64} {n : Int32} (hA : AI t r nm cnt rc rk co cu tr an sg am pv) (hW : CWl li t r nm cnt rc rk co cu tr an sg am pv tl h) (hw : w < 256) (hc : c < 256) (kP : ∀ h', CWl li (slT w a n c) r nm cnt rc rk co cu tr an sg am pv tl h' → Post none h') : mMet M_Pur_typeSeal L xs (3, 69) 0 0 [.ref 0, .int (nI w), .long a, .int n, .int (nI c)] h Post := by
  refine mMet_of rfl (Nat.le_of_ble_eq_true rfl) ?_
  refine mj_aload_n d_Pur_typeSeal_0 rfl ?_
  refine mj_ldc d_Pur_typeSeal_1 (nI 32942) q_448 ?_
  refine mj_iload_n d_Pur_typeSeal_3 rfl ?_
  refine mj_iconst d_Pur_typeSeal_4 (nI 0) (by decide) ?_
  refine mj_iload d_Pur_typeSeal_5 rfl ?_
  refine mj_virtual (d' := (2, 45)) (mc := 0) (ms := 0) (As := [_, _, _, _]) d_Pur_typeSeal_7 cw_Pur_typeHead q_426 q_428 qs_Pur_typeHead (ci := 5) rfl (cw0 hW) rfl rfl (mRoomB rfl) ?_
  refine s_Pur_typeHead hA hW (by decide) hc (fun h1 hW1 => ?_)
  have hA1 := AI_t hA (headT_Bb (i := 32942) (q := 0) (by decide) hw (by decide) hc) (by have := headT_len 32942 w 0 c; omega)
  obtain ⟨tf, hr⟩ := cw1 hA1 hW1
  have hlen := headT_len 32942 w 0 c
  have hW := hW1
  refine mj_aload_n d_Pur_typeSeal_10 rfl ?_
  refine mj_get d_Pur_typeSeal_11 fd_Pur_14 (cw0 hW) rfl ?_
  refine mj_lload_n d_Pur_typeSeal_14 rfl ?_
  refine mj_bipush d_Pur_typeSeal_15 (nI 6) (by decide) ?_
  refine mj_virtual (d' := (1, 21)) (mc := 0) (ms := 0) (As := [_, _]) d_Pur_typeSeal_17 cw_Row_addNumber q_430 q_133 q_134 (ci := 0) rfl hr.1 rfl rfl (mRoomB rfl) ?_
  refine s_Row_addNumber hr (by omega) (by decide) (fun g1 hg1 => ?_)
  have q1 := RA_put hr hg1 (by simp [beL_len]; omega)
  refine mj_aload_n d_Pur_typeSeal_20 rfl ?_
  refine mj_get d_Pur_typeSeal_21 fd_Pur_14 ((rPut_get (by decide) (by decide)).trans (cw0 hW)) rfl ?_
  refine mj_iload d_Pur_typeSeal_24 rfl ?_
  refine mj_i2l d_Pur_typeSeal_26 ?_
  refine mj_iconst d_Pur_typeSeal_27 (nI 4) (by decide) ?_
  refine mj_virtual (d' := (1, 21)) (mc := 0) (ms := 0) (As := [_, _]) d_Pur_typeSeal_28 cw_Row_addNumber q_430 q_133 q_134 (ci := 0) rfl q1.1 rfl rfl (mRoomB rfl) ?_
  refine s_Row_addNumber q1 (by simp [beL_len]; omega) (by decide) (fun g2 hg2 => ?_)
  rw [rPut_rPut (by decide)]
  refine mj_vret d_Pur_typeSeal_31 rfl (Nat.le_refl _) (Nat.le_refl _) ?_
  have e : slT w a n c = headT 32942 w 0 c ++ beL a 6 ++ beL n.toInt64 4 := by unfold slT; rw [List.append_assoc]
  rw [e] at kP
  exact kP _ (cwt hW1 hg2)
def pinT (p : Nat) : List Nat := headT 32 0 128 8 ++ [36, p / 1000 * 16 + p / 100 % 10, p / 10 % 10 * 16 + p % 10, 255, 255, 255, 255, 255]
theorem pinT_Bb {p : Nat} (h : p ≤ 9999) : Bb (pinT p) := Bb_app (headT_Bb (by decide) (by decide) (by decide) (by decide)) (Bb_cons (by decide) (Bb_cons (by omega) (Bb_cons (by omega) (Bb_cons (by decide) (Bb_cons (by decide) (Bb_cons (by decide) (Bb_cons (by decide) (Bb_cons (by decide) Bb_nil))))))))
def ff5 : Nat → List Nat
  | 0 => []
  | n + 1 => ff5 n ++ [255]
theorem ff5_len : ∀ n, (ff5 n).length = n
  | 0 => rfl
  | n + 1 => by rw [ff5, List.length_append, ff5_len n]; rfl
theorem lp_pin {L : Nat} {xs : Nat → Int32} {Post : Option Value → mHeap → Prop} {li t r nm : List Nat} {cnt : Nat → Nat} {rc : Nat → List Nat} {rk : Nat → Nat} {co cu tr an sg am pv : Nat} {tl h : mHeap} {p : Nat} {tf : Nat → Int32} (hW : CWl li t r nm cnt rc rk co cu tr an sg am pv tl h) (hr : RA h 1 2 40 t tf) (kk : ∀ g, Rf ([0, 32, 0, 128, 8, 36, p / 1000 * 16 + p / 100 % 10, p / 10 % 10 * 16 + p % 10] ++ ff5 5) g → mGo M_Pur_provePin L xs (6, 164) 0 0 Post 0 0 93 [some (.ref 0), some (.int (nI p)), some (.int (nI 5))] [] (rPut h 1 2 40 ([0, 32, 0, 128, 8, 36, p / 1000 * 16 + p / 100 % 10, p / 10 % 10 * 16 + p % 10] ++ ff5 5) g)) : ∀ (m i : Nat) (g : Nat → Int32), i + m = 5 → Rf ([0, 32, 0, 128, 8, 36, p / 1000 * 16 + p / 100 % 10, p / 10 % 10 * 16 + p % 10] ++ ff5 i) g → mGo M_Pur_provePin L xs (6, 164) 0 0 Post 0 0 71 [some (.ref 0), some (.int (nI p)), some (.int (nI i))] [] (rPut h 1 2 40 ([0, 32, 0, 128, 8, 36, p / 1000 * 16 + p / 100 % 10, p / 10 % 10 * 16 + p % 10] ++ ff5 i) g) := by
  intro m
  induction m with
  | zero =>
    intro i g hi hg
    refine mj_iload_n d_Pur_provePin_71 rfl ?_
    refine mj_iconst d_Pur_provePin_72 (nI 5) (by decide) ?_
    refine mj_icmpgeN d_Pur_provePin_73 93 rfl (by omega) (fun c_73 => ?_) (fun c_73 => ?_)
    · obtain rfl : i = 5 := by omega
      exact kk g hg
    · omega
  | succ m ih =>
    intro i g hi hg
    have q0 := RA_put hr hg (by simp [ff5_len]; omega)
    refine mj_iload_n d_Pur_provePin_71 rfl ?_
    refine mj_iconst d_Pur_provePin_72 (nI 5) (by decide) ?_
    refine mj_icmpgeN d_Pur_provePin_73 93 rfl (by omega) (fun c_73 => ?_) (fun c_73 => ?_)
    · omega
    · refine mj_aload_n d_Pur_provePin_76 rfl ?_
      refine mj_get d_Pur_provePin_77 fd_Pur_14 ((rPut_get (by decide) (by decide)).trans (cw0 hW)) rfl ?_
      refine mj_sipush d_Pur_provePin_80 (nI 255) (by decide) ?_
      refine mj_virtual (d' := (0, 0)) (mc := 0) (ms := 0) (As := [_]) d_Pur_provePin_83 cw_Row_add q_198 q_137 q_138 (ci := 0) rfl q0.1 rfl rfl (mRoomB rfl) ?_
      refine s_Row_add q0 (fun z => by simp [ff5_len] at z; omega) (fun _ g1 hg1 => ?_)
      rw [rPut_rPut (by decide)]
      rw [List.append_assoc] at hg1 ⊢
      refine mj_pop d_Pur_provePin_86 rfl ?_
      refine mj_iinc d_Pur_provePin_87 rfl (by decide) (nI (i + 1)) (nI_1 i) ?_
      dsimp only [mSt1, mSt2, mKill, Nat.reduceAdd]
      refine mj_goto d_Pur_provePin_90 71 rfl ?_
      exact ih (i + 1) g1 (by omega) hg1
theorem s_Pur_provePin {L : Nat} {xs : Nat → Int32} {Post : Option Value → mHeap → Prop} {li t r nm : List Nat} {cnt : Nat → Nat} {rc : Nat → List Nat} {rk : Nat → Nat} {co cu tr an sg am pv : Nat} {tl h : mHeap} {p : Nat} (hA : AI t r nm cnt rc rk co cu tr an sg am pv) (hW : CWl li t r nm cnt rc rk co cu tr an sg am pv tl h) (hp : p ≤ 9999) (kP : ∀ (S : R8) (h' : mHeap), S = (sendF (pinT p) nm cnt rc rk co cu tr an sg am pv) → CWl li [] S.2.1 nm cnt rc rk co S.2.2.1 S.2.2.2.1 S.2.2.2.2.1 S.2.2.2.2.2.1 S.2.2.2.2.2.2.1 S.2.2.2.2.2.2.2 tl h' → AI [] S.2.1 nm cnt rc rk co S.2.2.1 S.2.2.2.1 S.2.2.2.2.1 S.2.2.2.2.2.1 S.2.2.2.2.2.2.1 S.2.2.2.2.2.2.2 → S.1 < 65536 → Post (some (.int (nI S.1))) h') : mMet M_Pur_provePin L xs (6, 164) 0 0 [.ref 0, .int (nI p)] h Post := by
  refine mMet_of rfl (Nat.le_of_ble_eq_true rfl) ?_
  refine mj_aload_n d_Pur_provePin_0 rfl ?_
  refine mj_bipush d_Pur_provePin_1 (nI 32) (by decide) ?_
  refine mj_iconst d_Pur_provePin_3 (nI 0) (by decide) ?_
  refine mj_sipush d_Pur_provePin_4 (nI 128) (by decide) ?_
  refine mj_bipush d_Pur_provePin_7 (nI 8) (by decide) ?_
  refine mj_virtual (d' := (2, 45)) (mc := 0) (ms := 0) (As := [_, _, _, _]) d_Pur_provePin_9 cw_Pur_typeHead q_426 q_428 qs_Pur_typeHead (ci := 5) rfl (cw0 hW) rfl rfl (mRoomB rfl) ?_
  refine s_Pur_typeHead hA hW (by decide) (by decide) (fun h1 hW1 => ?_)
  have hA1 := AI_t (t' := headT 32 0 128 8) hA (headT_Bb (by decide) (by decide) (by decide) (by decide)) (by decide)
  obtain ⟨tf, hr⟩ := cw1 hA1 hW1
  have hW := hW1
  have he : headT 32 0 128 8 = [0, 32, 0, 128, 8] := by decide
  rw [he] at hr
  refine mj_aload_n d_Pur_provePin_12 rfl ?_
  refine mj_get d_Pur_provePin_13 fd_Pur_14 (cw0 hW) rfl ?_
  refine mj_bipush d_Pur_provePin_16 (nI 36) (by decide) ?_
  refine mj_virtual (d' := (0, 0)) (mc := 0) (ms := 0) (As := [_]) d_Pur_provePin_18 cw_Row_add q_198 q_137 q_138 (ci := 0) rfl hr.1 rfl rfl (mRoomB rfl) ?_
  refine s_Row_add hr (fun z => by simp at z) (fun _ g1 hg1 => ?_)
  have q1 := RA_put hr hg1 (by simp)
  refine mj_pop d_Pur_provePin_21 rfl ?_
  refine mj_aload_n d_Pur_provePin_22 rfl ?_
  refine mj_get d_Pur_provePin_23 fd_Pur_14 ((rPut_get (by decide) (by decide)).trans (cw0 hW)) rfl ?_
  refine mj_iload_n d_Pur_provePin_26 rfl ?_
  refine mj_sipush d_Pur_provePin_27 (nI 1000) (by decide) ?_
  refine mj_idiv d_Pur_provePin_30 (by decide) ?_
  rw [pk_div (by omega) (by decide) (by decide)]
  refine mj_bipush d_Pur_provePin_31 (nI 16) (by decide) ?_
  refine mj_imul d_Pur_provePin_33 ?_
  rw [pk_mul]
  refine mj_iload_n d_Pur_provePin_34 rfl ?_
  refine mj_bipush d_Pur_provePin_35 (nI 100) (by decide) ?_
  refine mj_idiv d_Pur_provePin_37 (by decide) ?_
  rw [pk_div (by omega) (by decide) (by decide)]
  refine mj_bipush d_Pur_provePin_38 (nI 10) (by decide) ?_
  refine mj_irem d_Pur_provePin_40 (by decide) ?_
  rw [pk_rem (by omega) (by decide) (by decide)]
  refine mj_iadd d_Pur_provePin_41 ?_
  rw [nI_add]
  refine mj_virtual (d' := (0, 0)) (mc := 0) (ms := 0) (As := [_]) d_Pur_provePin_42 cw_Row_add q_198 q_137 q_138 (ci := 0) rfl q1.1 rfl rfl (mRoomB rfl) ?_
  refine s_Row_add q1 (fun z => by simp at z) (fun _ g2 hg2 => ?_)
  rw [rPut_rPut (by decide)]
  have q2 := RA_put hr hg2 (by simp)
  refine mj_pop d_Pur_provePin_45 rfl ?_
  refine mj_aload_n d_Pur_provePin_46 rfl ?_
  refine mj_get d_Pur_provePin_47 fd_Pur_14 ((rPut_get (by decide) (by decide)).trans (cw0 hW)) rfl ?_
  refine mj_iload_n d_Pur_provePin_50 rfl ?_
  refine mj_bipush d_Pur_provePin_51 (nI 10) (by decide) ?_
  refine mj_idiv d_Pur_provePin_53 (by decide) ?_
  rw [pk_div (by omega) (by decide) (by decide)]
  refine mj_bipush d_Pur_provePin_54 (nI 10) (by decide) ?_
  refine mj_irem d_Pur_provePin_56 (by decide) ?_
  rw [pk_rem (by omega) (by decide) (by decide)]
  refine mj_bipush d_Pur_provePin_57 (nI 16) (by decide) ?_
  refine mj_imul d_Pur_provePin_59 ?_
  rw [pk_mul]
  refine mj_iload_n d_Pur_provePin_60 rfl ?_
  refine mj_bipush d_Pur_provePin_61 (nI 10) (by decide) ?_
  refine mj_irem d_Pur_provePin_63 (by decide) ?_
  rw [pk_rem (by omega) (by decide) (by decide)]
  refine mj_iadd d_Pur_provePin_64 ?_
  rw [nI_add]
  refine mj_virtual (d' := (0, 0)) (mc := 0) (ms := 0) (As := [_]) d_Pur_provePin_65 cw_Row_add q_198 q_137 q_138 (ci := 0) rfl q2.1 rfl rfl (mRoomB rfl) ?_
  refine s_Row_add q2 (fun z => by simp at z) (fun _ g3 hg3 => ?_)
  rw [rPut_rPut (by decide)]
  refine mj_pop d_Pur_provePin_68 rfl ?_
  refine mj_iconst d_Pur_provePin_69 (nI 0) (by decide) ?_
  refine mj_istore_n d_Pur_provePin_70 (by decide) ?_
  dsimp only [mSt1, mSt2, mKill, Nat.reduceAdd]
  refine lp_pin hW1 hr (fun g hg => ?_) 5 0 g3 (by omega) hg3
  have hW2 := cwt hW1 hg
  have hA2 : AI (pinT p) r nm cnt rc rk co cu tr an sg am pv := AI_t hA (pinT_Bb hp) (by simp [pinT, headT])
  refine mj_aload_n d_Pur_provePin_93 rfl ?_
  refine mj_get d_Pur_provePin_94 fd_Pur_34 (cw0 hW2) rfl ?_
  refine mj_aload_n d_Pur_provePin_97 rfl ?_
  refine mj_get d_Pur_provePin_98 fd_Pur_14 (cw0 hW2) rfl ?_
  refine mj_aload_n d_Pur_provePin_101 rfl ?_
  refine mj_get d_Pur_provePin_102 fd_Pur_18 (cw0 hW2) rfl ?_
  refine mj_virtual (d' := (5, 141)) (mc := 0) (ms := 0) (As := [_, _]) d_Pur_provePin_105 cw_Crd_obey q_215 q_216 q_217 (ci := 4) rfl (cw9 hW2) rfl rfl (mRoomB rfl) ?_
  refine c_obey hA2 hW2 (fun S h3 hS hW3 hA3 hl3 => ?_)
  refine mj_iret d_Pur_provePin_108 rfl rfl (Nat.le_refl _) (Nat.le_refl _) ?_
  exact kP S h3 hS hW3 hA3 hl3
def selT (nm : List Nat) : List Nat := headT 164 4 0 7 ++ nm
def rdyT (a : Int64) : List Nat := headT 32936 0 0 8 ++ ([131, 6] ++ beL a 6)
theorem rdyT_Bb (a : Int64) : Bb (rdyT a) := Bb_app (headT_Bb (by decide) (by decide) (by decide) (by decide)) (Bb_app (by decide) (beL_lt _ _))
/-- SELECT, then READY -/
def opnF (nm : List Nat) (cnt : Nat → Nat) (rc : Nat → List Nat) (rk : Nat → Nat) (co : Nat) (a : Int64) (S : R8) : R8 := if (snd8 nm cnt rc rk co (selT nm) S).1 = 36864 then snd8 nm cnt rc rk co (rdyT a) (snd8 nm cnt rc rk co (selT nm) S) else snd8 nm cnt rc rk co (selT nm) S
theorem s_Pur_openPayment {L : Nat} {xs : Nat → Int32} {Post : Option Value → mHeap → Prop} {li t r nm : List Nat} {cnt : Nat → Nat} {rc : Nat → List Nat} {rk : Nat → Nat} {co cu tr an sg am pv : Nat} {tl h : mHeap} {a : Int64} {s0 : Nat} (hA : AI t r nm cnt rc rk co cu tr an sg am pv) (hW : CWl li t r nm cnt rc rk co cu tr an sg am pv tl h) (kP : ∀ (S : R8) (h' : mHeap), S = (opnF nm cnt rc rk co a ((s0, r, cu, tr, an, sg, am, pv) : R8)) → CWl li [] S.2.1 nm cnt rc rk co S.2.2.1 S.2.2.2.1 S.2.2.2.2.1 S.2.2.2.2.2.1 S.2.2.2.2.2.2.1 S.2.2.2.2.2.2.2 tl h' → AI [] S.2.1 nm cnt rc rk co S.2.2.1 S.2.2.2.1 S.2.2.2.2.1 S.2.2.2.2.2.1 S.2.2.2.2.2.2.1 S.2.2.2.2.2.2.2 → S.1 < 65536 → Post (some (.int (nI S.1))) h') : mMet M_Pur_openPayment L xs (6, 164) 0 0 [.ref 0, .long a] h Post := by
  refine mMet_of rfl (Nat.le_of_ble_eq_true rfl) ?_
  refine mj_aload_n d_Pur_openPayment_0 rfl ?_
  refine mj_sipush d_Pur_openPayment_1 (nI 164) (by decide) ?_
  refine mj_iconst d_Pur_openPayment_4 (nI 4) (by decide) ?_
  refine mj_iconst d_Pur_openPayment_5 (nI 0) (by decide) ?_
  refine mj_bipush d_Pur_openPayment_6 (nI 7) (by decide) ?_
  refine mj_virtual (d' := (2, 45)) (mc := 0) (ms := 0) (As := [_, _, _, _]) d_Pur_openPayment_8 cw_Pur_typeHead q_426 q_428 qs_Pur_typeHead (ci := 5) rfl (cw0 hW) rfl rfl (mRoomB rfl) ?_
  refine s_Pur_typeHead hA hW (by decide) (by decide) (fun h1 hW1 => ?_)
  have hA1 := AI_t (t' := headT 164 4 0 7) hA (headT_Bb (by decide) (by decide) (by decide) (by decide)) (by decide)
  obtain ⟨tf, hr⟩ := cw1 hA1 hW1
  obtain ⟨nf, hm⟩ := cw10 hA1 hW1
  have hW := hW1
  have hn7 := hA.2.2.1.2
  refine mj_aload_n d_Pur_openPayment_11 rfl ?_
  refine mj_get d_Pur_openPayment_12 fd_Pur_14 (cw0 hW) rfl ?_
  refine mj_aload_n d_Pur_openPayment_15 rfl ?_
  refine mj_get d_Pur_openPayment_16 fd_Pur_34 (cw0 hW) rfl ?_
  refine mj_get d_Pur_openPayment_19 fd_Pur_153 (cw9 hW) rfl ?_
  refine mj_virtual (d' := (1, 21)) (mc := 0) (ms := 0) (As := [_]) d_Pur_openPayment_22 cw_Row_addRow q_431 q_269 q_270 (ci := 0) rfl hr.1 rfl rfl (mRoomB rfl) ?_
  refine s_Row_addRow hr hm (by decide) (by decide) (by decide) (by decide) (by rw [hn7]; decide) (fun g1 hg1 => ?_)
  have hW2 := cwt hW1 hg1
  have hA2 : AI (selT nm) r nm cnt rc rk co cu tr an sg am pv := AI_t hA (Bb_app (headT_Bb (by decide) (by decide) (by decide) (by decide)) hA.2.2.1.1) (by simp [selT, headT, hn7])
  refine mj_aload_n d_Pur_openPayment_25 rfl ?_
  refine mj_get d_Pur_openPayment_26 fd_Pur_34 (cw0 hW2) rfl ?_
  refine mj_aload_n d_Pur_openPayment_29 rfl ?_
  refine mj_get d_Pur_openPayment_30 fd_Pur_14 (cw0 hW2) rfl ?_
  refine mj_aload_n d_Pur_openPayment_33 rfl ?_
  refine mj_get d_Pur_openPayment_34 fd_Pur_18 (cw0 hW2) rfl ?_
  refine mj_virtual (d' := (5, 141)) (mc := 0) (ms := 0) (As := [_, _]) d_Pur_openPayment_37 cw_Crd_obey q_215 q_216 q_217 (ci := 4) rfl (cw9 hW2) rfl rfl (mRoomB rfl) ?_
  refine c_obey (t := selT nm) hA2 hW2 (fun S1 h3 hS1 hW3 hA3 hl3 => ?_)
  refine mj_istore_n d_Pur_openPayment_40 (by decide) ?_
  dsimp only [mSt1, mSt2, mKill, Nat.reduceAdd]
  refine mj_iload_n d_Pur_openPayment_41 rfl ?_
  refine mj_ldc d_Pur_openPayment_42 (nI 36864) q_432 ?_
  refine mj_icmpeqN d_Pur_openPayment_44 49 rfl (by omega) (fun c_44 => ?_) (fun c_44 => ?_)
  · refine mj_aload_n d_Pur_openPayment_49 rfl ?_
    refine mj_ldc d_Pur_openPayment_50 (nI 32936) q_433 ?_
    refine mj_iconst d_Pur_openPayment_52 (nI 0) (by decide) ?_
    refine mj_iconst d_Pur_openPayment_53 (nI 0) (by decide) ?_
    refine mj_bipush d_Pur_openPayment_54 (nI 8) (by decide) ?_
    refine mj_virtual (d' := (2, 45)) (mc := 0) (ms := 0) (As := [_, _, _, _]) d_Pur_openPayment_56 cw_Pur_typeHead q_426 q_428 qs_Pur_typeHead (ci := 5) rfl (cw0 hW3) rfl rfl (mRoomB rfl) ?_
    refine s_Pur_typeHead hA3 hW3 (by decide) (by decide) (fun h4 hW4 => ?_)
    have hA4 := AI_t (t' := headT 32936 0 0 8) hA3 (headT_Bb (by decide) (by decide) (by decide) (by decide)) (by decide)
    obtain ⟨tf4, hr4⟩ := cw1 hA4 hW4
    refine mj_aload_n d_Pur_openPayment_59 rfl ?_
    refine mj_get d_Pur_openPayment_60 fd_Pur_14 (cw0 hW4) rfl ?_
    refine mj_ldc2 d_Pur_openPayment_63 33542 q_434 ?_
    refine mj_iconst d_Pur_openPayment_66 (nI 2) (by decide) ?_
    refine mj_virtual (d' := (1, 21)) (mc := 0) (ms := 0) (As := [_, _]) d_Pur_openPayment_67 cw_Row_addNumber q_430 q_133 q_134 (ci := 0) rfl hr4.1 rfl rfl (mRoomB rfl) ?_
    refine s_Row_addNumber hr4 (by decide) (by decide) (fun g5 hg5 => ?_)
    have q5 := RA_put hr4 hg5 (by decide)
    refine mj_aload_n d_Pur_openPayment_70 rfl ?_
    refine mj_get d_Pur_openPayment_71 fd_Pur_14 ((rPut_get (by decide) (by decide)).trans (cw0 hW4)) rfl ?_
    refine mj_lload_n d_Pur_openPayment_74 rfl ?_
    refine mj_bipush d_Pur_openPayment_75 (nI 6) (by decide) ?_
    refine mj_virtual (d' := (1, 21)) (mc := 0) (ms := 0) (As := [_, _]) d_Pur_openPayment_77 cw_Row_addNumber q_430 q_133 q_134 (ci := 0) rfl q5.1 rfl rfl (mRoomB rfl) ?_
    refine s_Row_addNumber q5 (by decide) (by decide) (fun g6 hg6 => ?_)
    rw [rPut_rPut (by decide)]
    have e6 : headT 32936 0 0 8 ++ beL 33542 2 ++ beL a 6 = rdyT a := by rw [show beL 33542 2 = [131, 6] by decide, List.append_assoc]; rfl
    rw [e6] at hg6 ⊢
    have hW5 := cwt hW4 hg6
    have hA5 := AI_t hA4 (rdyT_Bb a) (by simp [rdyT, headT, beL_len])
    refine mj_aload_n d_Pur_openPayment_80 rfl ?_
    refine mj_get d_Pur_openPayment_81 fd_Pur_34 (cw0 hW5) rfl ?_
    refine mj_aload_n d_Pur_openPayment_84 rfl ?_
    refine mj_get d_Pur_openPayment_85 fd_Pur_14 (cw0 hW5) rfl ?_
    refine mj_aload_n d_Pur_openPayment_88 rfl ?_
    refine mj_get d_Pur_openPayment_89 fd_Pur_18 (cw0 hW5) rfl ?_
    refine mj_virtual (d' := (5, 141)) (mc := 0) (ms := 0) (As := [_, _]) d_Pur_openPayment_92 cw_Crd_obey q_215 q_216 q_217 (ci := 4) rfl (cw9 hW5) rfl rfl (mRoomB rfl) ?_
    refine c_obey (t := rdyT a) hA5 hW5 (fun S2 h6 hS2 hW6 hA6 hl6 => ?_)
    refine mj_iret d_Pur_openPayment_95 rfl rfl (Nat.le_refl _) (Nat.le_refl _) ?_
    have e1 : snd8 nm cnt rc rk co (selT nm) ((s0, r, cu, tr, an, sg, am, pv) : R8) = S1 := hS1.symm
    refine kP S2 h6 ?_ hW6 hA6 hl6
    unfold opnF
    rw [e1, if_pos c_44]
    exact hS2
  · refine mj_iload_n d_Pur_openPayment_47 rfl ?_
    refine mj_iret d_Pur_openPayment_48 rfl rfl (Nat.le_refl _) (Nat.le_refl _) ?_
    have e1 : snd8 nm cnt rc rk co (selT nm) ((s0, r, cu, tr, an, sg, am, pv) : R8) = S1 := hS1.symm
    refine kP S1 h3 ?_ hW3 hA3 hl3
    unfold opnF
    rw [e1, if_neg c_44]
