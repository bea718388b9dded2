/-- the model's inverse and its table -/
def pw (b : Nat) : Nat → Nat
  | 0 => 1
  | k + 1 => tm (pw b k) b
def sbB (v i : Nat) : Nat := (v / 2 ^ i + v / 2 ^ ((i + 4) % 8) + v / 2 ^ ((i + 5) % 8) + v / 2 ^ ((i + 6) % 8) + v / 2 ^ ((i + 7) % 8) + 99 / 2 ^ i) % 2
def sbI (v : Nat) : Nat → Nat
  | 0 => 0
  | i + 1 => sbI v i ||| 2 ^ i * sbB v i
theorem tm_lt {a b : Nat} (ha : a < 256) : tm a b < 256 := (tmI_lt ha 8).1
theorem pw_lt {b : Nat} : ∀ k, pw b k < 256
  | 0 => show 1 < 256 by decide
  | k + 1 => tm_lt (pw_lt k)
theorem x2_bit {a : Nat} (ha : a < 256) : x2 a = (a <<< 1) ^^^ (if a.testBit 7 then 283 else 0) := by
  have e : a.testBit 7 = decide (127 < a) := by
    rw [Nat.testBit_eq_decide_div_mod_eq]
    have h1 : a / 2 ^ 7 % 2 = 1 ↔ 127 < a := by
      rw [show (2 : Nat) ^ 7 = 128 from rfl]
      omega
    exact decide_eq_decide.mpr h1
  rw [e, Nat.shiftLeft_eq, show a * 2 ^ 1 = 2 * a by omega]
  unfold x2
  by_cases h : 127 < a
  · rw [if_pos h, if_pos (by simpa using h)]
  · rw [if_neg h, if_neg (by simpa using h), Nat.xor_zero]
theorem xx4 (a b c d : Nat) : (a ^^^ b) ^^^ (c ^^^ d) = (a ^^^ c) ^^^ (b ^^^ d) := by
  apply Nat.eq_of_testBit_eq
  intro i
  simp only [Nat.testBit_xor]
  cases a.testBit i <;> cases b.testBit i <;> cases c.testBit i <;> cases d.testBit i <;> rfl
/-- doubling is linear -/
theorem x2_xr {a b : Nat} (ha : a < 256) (hb : b < 256) : x2 (a ^^^ b) = x2 a ^^^ x2 b := by
  rw [x2_bit (xor_lt ha hb), x2_bit ha, x2_bit hb, Nat.shiftLeft_xor_distrib, Nat.testBit_xor, xx4]
  congr 1
  cases a.testBit 7 <;> cases b.testBit 7 <;> rfl
/-- times 3 -/
def x3 (a : Nat) : Nat := x2 a ^^^ a
theorem x3_lt {a : Nat} (ha : a < 256) : x3 a < 256 := xor_lt (x2_lt _ ha) ha
theorem x3_x2 {a : Nat} (ha : a < 256) : x2 (x3 a) = x3 (x2 a) := by unfold x3; exact x2_xr (x2_lt _ ha) ha
theorem x3_xor {a b : Nat} (ha : a < 256) (hb : b < 256) : x3 (a ^^^ b) = x3 a ^^^ x3 b := by
  unfold x3
  rw [x2_xr ha hb, xx4]
theorem tmI_3 {a b : Nat} (ha : a < 256) : ∀ k, tmI (x3 a) b k = (x3 (tmI a b k).1, x3 (tmI a b k).2)
  | 0 => by rw [tmI, tmI]; show (0, x3 a) = (x3 0, x3 a); rw [show x3 0 = 0 by decide]
  | k + 1 => by
    have hl := tmI_lt (b := b) ha k
    rw [tmI, tmI, tmI_3 ha k]
    refine Prod.ext ?_ (x3_x2 hl.2)
    dsimp only
    split
    · exact (x3_xor hl.1 hl.2).symm
    · rfl
theorem tm_3a {a b : Nat} (ha : a < 256) : tm (x3 a) b = x3 (tm a b) := by unfold tm; rw [tmI_3 ha 8]
theorem tm_1 : ∀ b, b < 256 → tm 1 b = b := by decide +kernel
def g3 : Nat → Nat
  | 0 => 1
  | j + 1 => x3 (g3 j)
theorem g3_lt : ∀ j, g3 j < 256
  | 0 => show 1 < 256 by decide
  | j + 1 => x3_lt (g3_lt j)
theorem g3_tm (j : Nat) : ∀ i, tm (g3 i) (g3 j) = g3 (i + j)
  | 0 => by rw [g3, tm_1 _ (g3_lt j), Nat.zero_add]
  | i + 1 => by rw [g3, tm_3a (g3_lt i), g3_tm j i, show i + 1 + j = i + j + 1 by omega, g3]
theorem g3_pw (j : Nat) : ∀ k, pw (g3 j) k = g3 (k * j)
  | 0 => by rw [pw, Nat.zero_mul, g3]
  | k + 1 => by rw [pw, g3_pw j k, g3_tm, Nat.succ_mul]
def exL : List Nat := [1, 3, 5, 15, 17, 51, 85, 255, 26, 46, 114, 150, 161, 248, 19, 53, 95, 225, 56, 72, 216, 115, 149, 164, 247, 2, 6, 10, 30, 34, 102, 170, 229, 52, 92, 228, 55, 89, 235, 38, 106, 190, 217, 112, 144, 171, 230, 49, 83, 245, 4, 12, 20, 60, 68, 204, 79, 209, 104, 184, 211, 110, 178, 205, 76, 212, 103, 169, 224, 59, 77, 215, 98, 166, 241, 8, 24, 40, 120, 136, 131, 158, 185, 208, 107, 189, 220, 127, 129, 152, 179, 206, 73, 219, 118, 154, 181, 196, 87, 249, 16, 48, 80, 240, 11, 29, 39, 105, 187, 214, 97, 163, 254, 25, 43, 125, 135, 146, 173, 236, 47, 113, 147, 174, 233, 32, 96, 160, 251, 22, 58, 78, 210, 109, 183, 194, 93, 231, 50, 86, 250, 21, 63, 65, 195, 94, 226, 61, 71, 201, 64, 192, 91, 237, 44, 116, 156, 191, 218, 117, 159, 186, 213, 100, 172, 239, 42, 126, 130, 157, 188, 223, 122, 142, 137, 128, 155, 182, 193, 88, 232, 35, 101, 175, 234, 37, 111, 177, 200, 67, 197, 84, 252, 31, 33, 99, 165, 244, 7, 9, 27, 45, 119, 153, 176, 203, 70, 202, 69, 207, 74, 222, 121, 139, 134, 145, 168, 227, 62, 66, 198, 81, 243, 14, 18, 54, 90, 238, 41, 123, 141, 140, 143, 138, 133, 148, 167, 242, 13, 23, 57, 75, 221, 124, 132, 151, 162, 253, 28, 36, 108, 180, 199, 82, 246]
def lgL : List Nat := [0, 0, 25, 1, 50, 2, 26, 198, 75, 199, 27, 104, 51, 238, 223, 3, 100, 4, 224, 14, 52, 141, 129, 239, 76, 113, 8, 200, 248, 105, 28, 193, 125, 194, 29, 181, 249, 185, 39, 106, 77, 228, 166, 114, 154, 201, 9, 120, 101, 47, 138, 5, 33, 15, 225, 36, 18, 240, 130, 69, 53, 147, 218, 142, 150, 143, 219, 189, 54, 208, 206, 148, 19, 92, 210, 241, 64, 70, 131, 56, 102, 221, 253, 48, 191, 6, 139, 98, 179, 37, 226, 152, 34, 136, 145, 16, 126, 110, 72, 195, 163, 182, 30, 66, 58, 107, 40, 84, 250, 133, 61, 186, 43, 121, 10, 21, 155, 159, 94, 202, 78, 212, 172, 229, 243, 115, 167, 87, 175, 88, 168, 80, 244, 234, 214, 116, 79, 174, 233, 213, 231, 230, 173, 232, 44, 215, 117, 122, 235, 22, 11, 245, 89, 203, 95, 176, 156, 169, 81, 160, 127, 12, 246, 111, 23, 196, 73, 236, 216, 67, 31, 45, 164, 118, 123, 183, 204, 187, 62, 90, 251, 96, 177, 134, 59, 82, 161, 108, 170, 85, 41, 157, 151, 178, 135, 144, 97, 190, 220, 252, 188, 149, 207, 205, 55, 63, 91, 209, 83, 57, 132, 60, 65, 162, 109, 71, 20, 42, 158, 93, 86, 242, 211, 171, 68, 17, 146, 217, 35, 32, 46, 137, 180, 124, 184, 38, 119, 153, 227, 165, 103, 74, 237, 222, 197, 49, 254, 24, 13, 99, 140, 128, 192, 247, 112, 7]
theorem ex_s : ∀ i, i < 254 → exL.getD (i + 1) 0 = x3 (exL.getD i 0) := by decide +kernel
theorem ex_g : ∀ i, i < 255 → g3 i = exL.getD i 0
  | 0, _ => rfl
  | i + 1, h => by rw [g3, ex_g i (by omega), ex_s i (by omega)]
theorem g3_255 : g3 255 = 1 := by
  rw [show (255 : Nat) = 254 + 1 from rfl, g3, ex_g 254 (by decide)]
  decide +kernel
theorem g3_per : ∀ n, g3 (n + 255) = g3 n
  | 0 => by rw [Nat.zero_add, g3_255]; rfl
  | n + 1 => by rw [show n + 1 + 255 = n + 255 + 1 by omega, g3, g3_per n, g3]
theorem g3_mod (r : Nat) : ∀ q, g3 (r + 255 * q) = g3 r
  | 0 => rfl
  | q + 1 => by rw [show r + 255 * (q + 1) = r + 255 * q + 255 by omega, g3_per, g3_mod r q]
theorem lg_ok : ∀ b, b < 256 → b ≠ 0 → lgL.getD b 0 < 255 ∧ exL.getD (lgL.getD b 0) 0 = b := by decide +kernel
theorem sb_j : ∀ j, j < 255 → sbI (exL.getD (254 * j % 255) 0) 8 = sbN (exL.getD j 0) := by decide +kernel
theorem sub_ok (b : Nat) (hb : b < 256) : sbI (if b = 0 then 0 else pw b 254) 8 = sbN b := by
  by_cases h0 : b = 0
  · subst h0
    rw [if_pos rfl]
    decide +kernel
  · rw [if_neg h0]
    obtain ⟨h1, h2⟩ := lg_ok b hb h0
    have h3 := sb_j _ h1
    have h4 : pw b 254 = exL.getD (254 * lgL.getD b 0 % 255) 0 := by
      have h5 : b = g3 (lgL.getD b 0) := by rw [ex_g _ h1, h2]
      have h6 := g3_pw (lgL.getD b 0) 254
      rw [← h5] at h6
      have h7 := g3_mod (254 * lgL.getD b 0 % 255) (254 * lgL.getD b 0 / 255)
      rw [Nat.mod_add_div] at h7
      rw [h6, h7, ex_g _ (Nat.mod_lt _ (by decide))]
    rw [h4, h3, h2]
theorem lk_inv {L : Nat} {xs : Nat → Int32} {Post : Option Value → mHeap → Prop} {h : mHeap} {b : Nat} (hb : b < 256) (kP : Post (some (.int (nI (pw b 254)))) h) : ∀ (m k : Nat), k + m = 254 → mGo M_Mod_inverse L xs (1, 24) 0 0 Post 0 0 4 [some (.int (nI b)), some (.int (nI (pw b k))), some (.int (nI k))] [] h := by
  intro m
  induction m with
  | zero =>
    intro k hk
    refine mj_iload_n d_Mod_inverse_4 rfl ?_
    refine mj_sipush d_Mod_inverse_5 (nI 254) (by decide) ?_
    refine mj_icmpgeN d_Mod_inverse_8 23 rfl (by omega) (fun c_8 => ?_) (fun c_8 => ?_)
    · refine mj_iload_n d_Mod_inverse_23 rfl ?_
      refine mj_iret d_Mod_inverse_24 rfl rfl (Nat.le_refl _) (Nat.le_refl _) ?_
      obtain rfl : k = 254 := by omega
      exact kP
    · omega
  | succ m ih =>
    intro k hk
    refine mj_iload_n d_Mod_inverse_4 rfl ?_
    refine mj_sipush d_Mod_inverse_5 (nI 254) (by decide) ?_
    refine mj_icmpgeN d_Mod_inverse_8 23 rfl (by omega) (fun c_8 => ?_) (fun c_8 => ?_)
    · omega
    · refine mj_iload_n d_Mod_inverse_11 rfl ?_
      refine mj_iload_n d_Mod_inverse_12 rfl ?_
      refine mj_static (d' := (0, 0)) (mc := 0) (ms := 0) (As := [_, _]) d_Mod_inverse_13 cw_Mod_times q_481 q_482 rfl rfl (mRoomB rfl) ?_
      refine s_Mod_times (pw_lt k) hb ?_
      refine mj_istore_n d_Mod_inverse_16 (by decide) ?_
      dsimp only [mSt1, mSt2, mKill, Nat.reduceAdd]
      refine mj_iinc d_Mod_inverse_17 rfl (by decide) (nI (k + 1)) (nI_1 k) ?_
      dsimp only [mSt1, mSt2, mKill, Nat.reduceAdd]
      refine mj_goto d_Mod_inverse_20 4 rfl ?_
      exact ih (k + 1) (by omega)
theorem s_Mod_inverse {L : Nat} {xs : Nat → Int32} {Post : Option Value → mHeap → Prop} {h : mHeap} {b : Nat} (hb : b < 256) (kP : Post (some (.int (nI (pw b 254)))) h) : mMet M_Mod_inverse L xs (1, 24) 0 0 [.int (nI b)] h Post := by
  refine mMet_of rfl (Nat.le_of_ble_eq_true rfl) ?_
  refine mj_iconst d_Mod_inverse_0 (nI 1) (by decide) ?_
  refine mj_istore_n d_Mod_inverse_1 (by decide) ?_
  dsimp only [mSt1, mSt2, mKill, Nat.reduceAdd]
  refine mj_iconst d_Mod_inverse_2 (nI 0) (by decide) ?_
  refine mj_istore_n d_Mod_inverse_3 (by decide) ?_
  dsimp only [mSt1, mSt2, mKill, Nat.reduceAdd]
  exact lk_inv hb kP 254 0 (by omega)
theorem lk_sub {L : Nat} {xs : Nat → Int32} {Post : Option Value → mHeap → Prop} {h : mHeap} {b v : Nat} (hv : v < 256) (kP : Post (some (.int (nI (sbI v 8)))) h) : ∀ (m i : Nat) (w4 : Option Value), i + m = 8 → mGo M_Mod_substitute L xs (2, 46) 0 0 Post 0 0 17 [some (.int (nI b)), some (.int (nI v)), some (.int (nI (sbI v i))), some (.int (nI i)), w4] [] h := by
  intro m
  induction m with
  | zero =>
    intro i w4 hi
    refine mj_iload_n d_Mod_substitute_17 rfl ?_
    refine mj_bipush d_Mod_substitute_18 (nI 8) (by decide) ?_
    refine mj_icmpgeN d_Mod_substitute_20 86 rfl (by omega) (fun c_20 => ?_) (fun c_20 => ?_)
    · refine mj_iload_n d_Mod_substitute_86 rfl ?_
      refine mj_iret d_Mod_substitute_87 rfl rfl (Nat.le_refl _) (Nat.le_refl _) ?_
      obtain rfl : i = 8 := by omega
      exact kP
    · omega
  | succ m ih =>
    intro i w4 hi
    refine mj_iload_n d_Mod_substitute_17 rfl ?_
    refine mj_bipush d_Mod_substitute_18 (nI 8) (by decide) ?_
    refine mj_icmpgeN d_Mod_substitute_20 86 rfl (by omega) (fun c_20 => ?_) (fun c_20 => ?_)
    · omega
    · refine mj_iload_n d_Mod_substitute_23 rfl ?_
      refine mj_iload_n d_Mod_substitute_24 rfl ?_
      refine mj_ishr d_Mod_substitute_25 ?_
      rw [nI_shrk (by omega) (by omega)]
      refine mj_iload_n d_Mod_substitute_26 rfl ?_
      refine mj_iload_n d_Mod_substitute_27 rfl ?_
      refine mj_iconst d_Mod_substitute_28 (nI 4) (by decide) ?_
      refine mj_iadd d_Mod_substitute_29 ?_
      rw [nI_add]
      refine mj_bipush d_Mod_substitute_30 (nI 8) (by decide) ?_
      refine mj_irem d_Mod_substitute_32 (by decide) ?_
      rw [pk_rem (by omega) (by decide) (by decide)]
      refine mj_ishr d_Mod_substitute_33 ?_
      rw [nI_shrk (by omega) (by omega)]
      refine mj_iadd d_Mod_substitute_34 ?_
      rw [nI_add]
      refine mj_iload_n d_Mod_substitute_35 rfl ?_
      refine mj_iload_n d_Mod_substitute_36 rfl ?_
      refine mj_iconst d_Mod_substitute_37 (nI 5) (by decide) ?_
      refine mj_iadd d_Mod_substitute_38 ?_
      rw [nI_add]
      refine mj_bipush d_Mod_substitute_39 (nI 8) (by decide) ?_
      refine mj_irem d_Mod_substitute_41 (by decide) ?_
      rw [pk_rem (by omega) (by decide) (by decide)]
      refine mj_ishr d_Mod_substitute_42 ?_
      rw [nI_shrk (by omega) (by omega)]
      refine mj_iadd d_Mod_substitute_43 ?_
      rw [nI_add]
      refine mj_iload_n d_Mod_substitute_44 rfl ?_
      refine mj_iload_n d_Mod_substitute_45 rfl ?_
      refine mj_bipush d_Mod_substitute_46 (nI 6) (by decide) ?_
      refine mj_iadd d_Mod_substitute_48 ?_
      rw [nI_add]
      refine mj_bipush d_Mod_substitute_49 (nI 8) (by decide) ?_
      refine mj_irem d_Mod_substitute_51 (by decide) ?_
      rw [pk_rem (by omega) (by decide) (by decide)]
      refine mj_ishr d_Mod_substitute_52 ?_
      rw [nI_shrk (by omega) (by omega)]
      refine mj_iadd d_Mod_substitute_53 ?_
      rw [nI_add]
      refine mj_iload_n d_Mod_substitute_54 rfl ?_
      refine mj_iload_n d_Mod_substitute_55 rfl ?_
      refine mj_bipush d_Mod_substitute_56 (nI 7) (by decide) ?_
      refine mj_iadd d_Mod_substitute_58 ?_
      rw [nI_add]
      refine mj_bipush d_Mod_substitute_59 (nI 8) (by decide) ?_
      refine mj_irem d_Mod_substitute_61 (by decide) ?_
      rw [pk_rem (by omega) (by decide) (by decide)]
      refine mj_ishr d_Mod_substitute_62 ?_
      rw [nI_shrk (by omega) (by omega)]
      refine mj_iadd d_Mod_substitute_63 ?_
      rw [nI_add]
      refine mj_bipush d_Mod_substitute_64 (nI 99) (by decide) ?_
      refine mj_iload_n d_Mod_substitute_66 rfl ?_
      refine mj_ishr d_Mod_substitute_67 ?_
      rw [nI_shrk (by omega) (by omega)]
      refine mj_iadd d_Mod_substitute_68 ?_
      rw [nI_add]
      refine mj_iconst d_Mod_substitute_69 (nI 1) (by decide) ?_
      refine mj_iand d_Mod_substitute_70 ?_
      rw [nI_and1]
      refine mj_istore d_Mod_substitute_71 (by decide) ?_
      dsimp only [mSt1, mSt2, mKill, Nat.reduceAdd]
      refine mj_iload_n d_Mod_substitute_73 rfl ?_
      refine mj_iload d_Mod_substitute_74 rfl ?_
      refine mj_iload_n d_Mod_substitute_76 rfl ?_
      refine mj_ishl d_Mod_substitute_77 ?_
      rw [nI_shlk _ (sh8 i (by omega))]
      refine mj_ior d_Mod_substitute_78 ?_
      rw [nI_or]
      refine mj_istore_n d_Mod_substitute_79 (by decide) ?_
      dsimp only [mSt1, mSt2, mKill, Nat.reduceAdd]
      refine mj_iinc d_Mod_substitute_80 rfl (by decide) (nI (i + 1)) (nI_1 i) ?_
      dsimp only [mSt1, mSt2, mKill, Nat.reduceAdd]
      refine mj_goto d_Mod_substitute_83 17 rfl ?_
      exact ih (i + 1) _ (by omega)
theorem s_Mod_substitute {L : Nat} {xs : Nat → Int32} {Post : Option Value → mHeap → Prop} {h : mHeap} {b : Nat} (hb : b < 256) (kP : Post (some (.int (nI (sbN b)))) h) : mMet M_Mod_substitute L xs (2, 46) 0 0 [.int (nI b)] h Post := by
  rw [← sub_ok b hb] at kP
  refine mMet_of rfl (Nat.le_of_ble_eq_true rfl) ?_
  refine mj_iload_n d_Mod_substitute_0 rfl ?_
  refine mj_ifneN d_Mod_substitute_1 8 rfl (by omega) (fun c_1 => ?_) (fun c_1 => ?_)
  · refine mj_iload_n d_Mod_substitute_8 rfl ?_
    refine mj_static (d' := (1, 24)) (mc := 0) (ms := 0) (As := [_]) d_Mod_substitute_9 cw_Mod_inverse q_478 q_479 rfl rfl (mRoomB rfl) ?_
    refine s_Mod_inverse hb ?_
    refine mj_istore_n d_Mod_substitute_12 (by decide) ?_
    dsimp only [mSt1, mSt2, mKill, Nat.reduceAdd]
    refine mj_iconst d_Mod_substitute_13 (nI 0) (by decide) ?_
    refine mj_istore_n d_Mod_substitute_14 (by decide) ?_
    dsimp only [mSt1, mSt2, mKill, Nat.reduceAdd]
    refine mj_iconst d_Mod_substitute_15 (nI 0) (by decide) ?_
    refine mj_istore_n d_Mod_substitute_16 (by decide) ?_
    dsimp only [mSt1, mSt2, mKill, Nat.reduceAdd]
    first
      | (rw [if_pos c_1] at kP; exact lk_sub (by decide) kP 8 0 _ (by omega))
      | (rw [if_neg c_1] at kP; exact lk_sub (pw_lt 254) kP 8 0 _ (by omega))
  · refine mj_iconst d_Mod_substitute_4 (nI 0) (by decide) ?_
    refine mj_goto d_Mod_substitute_5 12 rfl ?_
    refine mj_istore_n d_Mod_substitute_12 (by decide) ?_
    dsimp only [mSt1, mSt2, mKill, Nat.reduceAdd]
    refine mj_iconst d_Mod_substitute_13 (nI 0) (by decide) ?_
    refine mj_istore_n d_Mod_substitute_14 (by decide) ?_
    dsimp only [mSt1, mSt2, mKill, Nat.reduceAdd]
    refine mj_iconst d_Mod_substitute_15 (nI 0) (by decide) ?_
    refine mj_istore_n d_Mod_substitute_16 (by decide) ?_
    dsimp only [mSt1, mSt2, mKill, Nat.reduceAdd]
    first
      | (rw [if_pos c_1] at kP; exact lk_sub (by decide) kP 8 0 _ (by omega))
      | (rw [if_neg c_1] at kP; exact lk_sub (pw_lt 254) kP 8 0 _ (by omega))
theorem sh16 : ∀ i : Nat, i < 3 → (((nI 16 - nI 8 * nI i) &&& 31).toBitVec.smod 32).toNat = 8 * (2 - i) := by decide +kernel
theorem kb0 : FA 16 (kbF 0 0) (fun _ => 0) := by
  show ∀ j, j < 16 → (0 : Int32) = nI (kbF 0 0 j)
  decide +kernel
theorem nm7 {v : Int32} {f : Nat → Int32} (h0 : f 0 = nI 160 ∧ f 1 = nI 0 ∧ f 2 = nI 0 ∧ f 3 = nI 0) (h1 : ∀ j, j < 3 → f (4 + j) = nI (byteI v (2 - j))) : Rf (nmF v) f := by
  intro j hj
  rw [(nmF_ok v).2] at hj
  have e : nmF v = [160, 0, 0, 0, byteI v 2, byteI v 1, byteI v 0] := by
    unfold nmF
    simp only [beL, byteI_l v 2 (by decide), byteI_l v 1 (by decide), byteI_l v 0 (by decide), List.cons_append, List.nil_append]
  rw [e]
  rcases (show j = 0 ∨ j = 1 ∨ j = 2 ∨ j = 3 ∨ j = 4 ∨ j = 5 ∨ j = 6 by omega) with rfl | rfl | rfl | rfl | rfl | rfl | rfl
  · exact h0.1
  · exact h0.2.1
  · exact h0.2.2.1
  · exact h0.2.2.2
  · exact h1 0 (by decide)
  · exact h1 1 (by decide)
  · exact h1 2 (by decide)
theorem dg0 : FA 4 (dgF 0) (fun _ => 0) := by
  show ∀ j, j < 4 → (0 : Int32) = nI (dgF 0 j)
  decide +kernel
theorem ln_init {L : Nat} {xs : Nat → Int32} {Post : Option Value → mHeap → Prop} {c0 c1 c2 c3 c4 c5 c6 c7 c8 c9 c10 c11 c12 c13 c14 c15 c16 c17 c18 c19 c20 c21 c22 c23 : mCell} {v : Int32} {fta : Nat → Int32} (hta : FA 256 sbN fta) (kk : ∀ h', MW (fun _ => 0) [] [] (nmF v) (fun _ => 0) (fun _ => []) (rkF (kbF 0 0)) 0 0 3 0 0 0 0 [c0, c1, c2, c3, c4, c5, c6, c7, c8, c9, c10, c11, c12, c13, c14, c15, c16, c17, c18, c19, c20, c21, c22, c23] h' → Post none h') : ∀ (m k : Nat) (fnm : Nat → Int32), k + m = 3 → (fnm 0 = nI 160 ∧ fnm 1 = nI 0 ∧ fnm 2 = nI 0 ∧ fnm 3 = nI 0) → (∀ j, j < k → fnm (4 + j) = nI (byteI v (2 - j))) → mGo M_Mod_init L xs (3, 70) 17 1123 Post 17 1123 182 [some (.ref 24), some (.int v), some (.int (nI k))] [] [c0, c1, c2, c3, c4, c5, c6, c7, c8, c9, c10, c11, c12, c13, c14, c15, c16, c17, c18, c19, c20, c21, c22, c23, cMod 0 3 0 0 0 0 0 0, cArr 16 (fun _ => 0), cArr 4 (fun _ => 0), cArr 7 fnm, cArr 4 (fun _ => 0), cArr 12 (fun _ => 0), cArr 360 (fun _ => 0), cArr 40 (fun _ => 0), cArr 64 (fun _ => 0), cArr 16 (fun _ => 0), cArr 256 fta, cArr 176 (fun _ => 0), cArr 16 (fun _ => 0), cArr 16 (fun _ => 0), cArr 64 (fun _ => 0), cArr 16 (fun _ => 0), cArr 16 (fun _ => 0), cArr 40 (fun _ => 0)] := by
  intro m
  induction m with
  | zero =>
    intro k fnm hk h0 h1
    refine mj_iload_n d_Mod_init_182 rfl ?_
    refine mj_iconst d_Mod_init_183 (nI 3) (by decide) ?_
    refine mj_icmpgeN d_Mod_init_184 214 rfl (by omega) (fun c_184 => ?_) (fun c_184 => ?_)
    · refine mj_aload_n d_Mod_init_214 rfl ?_
      refine mj_virtual (d' := (1, 24)) (mc := 0) (ms := 0) (As := []) d_Mod_init_215 cw_Mod_expand q_484 q_486 qs_Mod_expand (ci := 6) rfl rfl rfl rfl (mRoomB rfl) ?_
      refine s_Mod_expand rfl rfl rfl rfl hta (kbF_lt 0 0) kb0 (fun f hf => ?_)
      try simp only [List.length_cons, List.length_nil, List.cons_append, List.nil_append, Nat.reduceAdd, Nat.zero_add, List.set_cons_succ, List.set_cons_zero]
      refine mj_vret d_Mod_init_218 rfl (Nat.le_refl _) (Nat.le_refl _) ?_
      refine kk _ ⟨[c0, c1, c2, c3, c4, c5, c6, c7, c8, c9, c10, c11, c12, c13, c14, c15, c16, c17, c18, c19, c20, c21, c22, c23, cMod 0 3 0 0 0 0 0 0, cArr 16 (fun _ => 0), cArr 4 (fun _ => 0), cArr 7 fnm, cArr 4 (fun _ => 0), cArr 12 (fun _ => 0), cArr 360 (fun _ => 0), cArr 40 (fun _ => 0), cArr 64 (fun _ => 0), cArr 16 (fun _ => 0), cArr 256 fta, cArr 176 f, cArr 16 (fun _ => 0), cArr 16 (fun _ => 0), cArr 64 (fun _ => 0), cArr 16 (fun _ => 0), cArr 16 (fun _ => 0), cArr 40 (fun _ => 0)], (fun _ => 0), (fun _ => 0), fnm, (fun _ => 0), (fun _ => 0), (fun _ => 0), fta, f, (fun _ => 0), (fun _ => 0), (fun _ => 0), (fun _ => 0), (fun _ => 0), (fun _ => 0), (fun _ => 0), (fun _ => 0), ⟨fun j hj => ?_, fun j hj => ?_, nm7 h0 (fun j hj => h1 j (by omega)), dg0, ⟨fun j hj => rfl, fun f hf => Nat.zero_le _, fun f j hf hj => ?_⟩, hta, hf⟩, ⟨⟨_, rfl⟩, ⟨_, rfl⟩, ⟨_, rfl⟩, rfl, rfl, rfl, rfl, rfl, rfl, rfl, rfl, rfl, rfl, rfl, rfl, rfl, rfl, rfl⟩, rfl, rfl⟩
      · cases hj
      · cases hj
      · cases hj
    · omega
  | succ m ih =>
    intro k fnm hk h0 h1
    refine mj_iload_n d_Mod_init_182 rfl ?_
    refine mj_iconst d_Mod_init_183 (nI 3) (by decide) ?_
    refine mj_icmpgeN d_Mod_init_184 214 rfl (by omega) (fun c_184 => ?_) (fun c_184 => ?_)
    · omega
    · refine mj_aload_n d_Mod_init_187 rfl ?_
      refine mj_get d_Mod_init_188 fd_Mod_16 rfl rfl ?_
      refine mj_iconst d_Mod_init_191 (nI 4) (by decide) ?_
      refine mj_iload_n d_Mod_init_192 rfl ?_
      refine mj_iadd d_Mod_init_193 ?_
      rw [nI_add]
      refine mj_iload_n d_Mod_init_194 rfl ?_
      refine mj_bipush d_Mod_init_195 (nI 16) (by decide) ?_
      refine mj_bipush d_Mod_init_197 (nI 8) (by decide) ?_
      refine mj_iload_n d_Mod_init_199 rfl ?_
      refine mj_imul d_Mod_init_200 ?_
      refine mj_isub d_Mod_init_201 ?_
      refine mj_ishr d_Mod_init_202 ?_
      refine mj_sipush d_Mod_init_203 (nI 255) (by decide) ?_
      refine mj_iand d_Mod_init_206 ?_
      rw [i_b3' _ _ (2 - k) (sh16 k (by omega)) (by omega)]
      refine mj_iastN d_Mod_init_207 rfl (by omega) ?_
      try simp only [List.length_cons, List.length_nil, List.cons_append, List.nil_append, Nat.reduceAdd, Nat.zero_add, List.set_cons_succ, List.set_cons_zero]
      refine mj_iinc d_Mod_init_208 rfl (by decide) (nI (k + 1)) (nI_1 k) ?_
      dsimp only [mSt1, mSt2, mKill, Nat.reduceAdd]
      refine mj_goto d_Mod_init_211 182 rfl ?_
      refine ih (k + 1) _ (by omega) ⟨by rw [pk_un (by omega)]; exact h0.1, by rw [pk_un (by omega)]; exact h0.2.1, by rw [pk_un (by omega)]; exact h0.2.2.1, by rw [pk_un (by omega)]; exact h0.2.2.2⟩ (fun j hj => ?_)
      by_cases e : j = k
      · subst e; rw [pk_us]
      · rw [pk_un (by omega), h1 j (by omega)]
theorem lt_init {L : Nat} {xs : Nat → Int32} {Post : Option Value → mHeap → Prop} {c0 c1 c2 c3 c4 c5 c6 c7 c8 c9 c10 c11 c12 c13 c14 c15 c16 c17 c18 c19 c20 c21 c22 c23 : mCell} {v : Int32} (kk : ∀ h', MW (fun _ => 0) [] [] (nmF v) (fun _ => 0) (fun _ => []) (rkF (kbF 0 0)) 0 0 3 0 0 0 0 [c0, c1, c2, c3, c4, c5, c6, c7, c8, c9, c10, c11, c12, c13, c14, c15, c16, c17, c18, c19, c20, c21, c22, c23] h' → Post none h') : ∀ (m k : Nat) (fta : Nat → Int32), k + m = 256 → FA k sbN fta → mGo M_Mod_init L xs (3, 70) 17 1123 Post 17 1123 148 [some (.ref 24), some (.int v), some (.int (nI k))] [] [c0, c1, c2, c3, c4, c5, c6, c7, c8, c9, c10, c11, c12, c13, c14, c15, c16, c17, c18, c19, c20, c21, c22, c23, cMod 0 3 0 0 0 0 0 0, cArr 16 (fun _ => 0), cArr 4 (fun _ => 0), cArr 7 (fun _ => 0), cArr 4 (fun _ => 0), cArr 12 (fun _ => 0), cArr 360 (fun _ => 0), cArr 40 (fun _ => 0), cArr 64 (fun _ => 0), cArr 16 (fun _ => 0), cArr 256 fta, cArr 176 (fun _ => 0), cArr 16 (fun _ => 0), cArr 16 (fun _ => 0), cArr 64 (fun _ => 0), cArr 16 (fun _ => 0), cArr 16 (fun _ => 0), cArr 40 (fun _ => 0)] := by
  intro m
  induction m with
  | zero =>
    intro k fta hk hf
    refine mj_iload_n d_Mod_init_148 rfl ?_
    refine mj_sipush d_Mod_init_149 (nI 256) (by decide) ?_
    refine mj_icmpgeN d_Mod_init_152 171 rfl (by omega) (fun c_152 => ?_) (fun c_152 => ?_)
    · refine mj_aload_n d_Mod_init_171 rfl ?_
      refine mj_get d_Mod_init_172 fd_Mod_16 rfl rfl ?_
      refine mj_iconst d_Mod_init_175 (nI 0) (by decide) ?_
      refine mj_sipush d_Mod_init_176 (nI 160) (by decide) ?_
      refine mj_iastN d_Mod_init_179 rfl (by omega) ?_
      try simp only [List.length_cons, List.length_nil, List.cons_append, List.nil_append, Nat.reduceAdd, Nat.zero_add, List.set_cons_succ, List.set_cons_zero]
      refine mj_iconst d_Mod_init_180 (nI 0) (by decide) ?_
      refine mj_istore_n d_Mod_init_181 (by decide) ?_
      dsimp only [mSt1, mSt2, mKill, Nat.reduceAdd]
      refine ln_init (FA_le hf (by omega)) kk 3 0 _ (by omega) ⟨by rw [pk_us], by rw [pk_un (by decide)]; rfl, by rw [pk_un (by decide)]; rfl, by rw [pk_un (by decide)]; rfl⟩ (fun j hj => by omega)
    · omega
  | succ m ih =>
    intro k fta hk hf
    refine mj_iload_n d_Mod_init_148 rfl ?_
    refine mj_sipush d_Mod_init_149 (nI 256) (by decide) ?_
    refine mj_icmpgeN d_Mod_init_152 171 rfl (by omega) (fun c_152 => ?_) (fun c_152 => ?_)
    · omega
    · refine mj_aload_n d_Mod_init_155 rfl ?_
      refine mj_get d_Mod_init_156 fd_Mod_41 rfl rfl ?_
      refine mj_iload_n d_Mod_init_159 rfl ?_
      refine mj_iload_n d_Mod_init_160 rfl ?_
      refine mj_static (d' := (2, 46)) (mc := 0) (ms := 0) (As := [_]) d_Mod_init_161 cw_Mod_substitute q_475 q_476 rfl rfl (mRoomB rfl) ?_
      refine s_Mod_substitute (by omega) ?_
      refine mj_iastN d_Mod_init_164 rfl (by omega) ?_
      try simp only [List.length_cons, List.length_nil, List.cons_append, List.nil_append, Nat.reduceAdd, Nat.zero_add, List.set_cons_succ, List.set_cons_zero]
      refine mj_iinc d_Mod_init_165 rfl (by decide) (nI (k + 1)) (nI_1 k) ?_
      dsimp only [mSt1, mSt2, mKill, Nat.reduceAdd]
      refine mj_goto d_Mod_init_168 148 rfl ?_
      exact ih (k + 1) _ (by omega) (FA_s hf)
theorem s_Mod_init {L : Nat} {xs : Nat → Int32} {Post : Option Value → mHeap → Prop} {c0 c1 c2 c3 c4 c5 c6 c7 c8 c9 c10 c11 c12 c13 c14 c15 c16 c17 c18 c19 c20 c21 c22 c23 : mCell} {v : Int32} (kk : ∀ h', MW (fun _ => 0) [] [] (nmF v) (fun _ => 0) (fun _ => []) (rkF (kbF 0 0)) 0 0 3 0 0 0 0 [c0, c1, c2, c3, c4, c5, c6, c7, c8, c9, c10, c11, c12, c13, c14, c15, c16, c17, c18, c19, c20, c21, c22, c23] h' → Post none h') : mMet M_Mod_init L xs (3, 70) 17 1123 [.ref 24, .int v] [c0, c1, c2, c3, c4, c5, c6, c7, c8, c9, c10, c11, c12, c13, c14, c15, c16, c17, c18, c19, c20, c21, c22, c23, .inr (6, [.null, .null, .null, .null, .null, .null, .int 0, .int 0, .int 0, .int 0, .long 0, .int 0, .int 0, .null, .int 0, .null, .null, .null, .null, .null, .null, .null, .null, .null, .null])] Post := by
  refine mMet_of rfl (Nat.le_of_ble_eq_true rfl) ?_
  refine mj_aload_n d_Mod_init_0 rfl ?_
  refine mj_objInit d_Mod_init_1 q_474 q_16 q_17 ⟨by decide, Nat.le_of_ble_eq_true rfl⟩ ?_
  refine mj_aload_n d_Mod_init_4 rfl ?_
  refine mj_bipush d_Mod_init_5 (nI 16) (by decide) ?_
  refine mj_newi 16 d_Mod_init_7 q_31 (by decide) (by decide) (by decide) (by decide) (by decide) ?_
  try simp only [List.length_cons, List.length_nil, List.cons_append, List.nil_append, Nat.reduceAdd, Nat.zero_add, List.set_cons_succ, List.set_cons_zero]
  refine mj_put d_Mod_init_9 fd_Mod_7 ft_Mod_0 rfl (Nat.le_of_ble_eq_true rfl) rfl rfl ?_
  try simp only [List.length_cons, List.length_nil, List.cons_append, List.nil_append, Nat.reduceAdd, Nat.zero_add, List.set_cons_succ, List.set_cons_zero]
  refine mj_aload_n d_Mod_init_12 rfl ?_
  refine mj_iconst d_Mod_init_13 (nI 4) (by decide) ?_
  refine mj_newi 4 d_Mod_init_14 q_31 (by decide) (by decide) (by decide) (by decide) (by decide) ?_
  try simp only [List.length_cons, List.length_nil, List.cons_append, List.nil_append, Nat.reduceAdd, Nat.zero_add, List.set_cons_succ, List.set_cons_zero]
  refine mj_put d_Mod_init_16 fd_Mod_13 ft_Mod_1 rfl (Nat.le_of_ble_eq_true rfl) rfl rfl ?_
  try simp only [List.length_cons, List.length_nil, List.cons_append, List.nil_append, Nat.reduceAdd, Nat.zero_add, List.set_cons_succ, List.set_cons_zero]
  refine mj_aload_n d_Mod_init_19 rfl ?_
  refine mj_bipush d_Mod_init_20 (nI 7) (by decide) ?_
  refine mj_newi 7 d_Mod_init_22 q_31 (by decide) (by decide) (by decide) (by decide) (by decide) ?_
  try simp only [List.length_cons, List.length_nil, List.cons_append, List.nil_append, Nat.reduceAdd, Nat.zero_add, List.set_cons_succ, List.set_cons_zero]
  refine mj_put d_Mod_init_24 fd_Mod_16 ft_Mod_2 rfl (Nat.le_of_ble_eq_true rfl) rfl rfl ?_
  try simp only [List.length_cons, List.length_nil, List.cons_append, List.nil_append, Nat.reduceAdd, Nat.zero_add, List.set_cons_succ, List.set_cons_zero]
  refine mj_aload_n d_Mod_init_27 rfl ?_
  refine mj_iconst d_Mod_init_28 (nI 4) (by decide) ?_
  refine mj_newi 4 d_Mod_init_29 q_31 (by decide) (by decide) (by decide) (by decide) (by decide) ?_
  try simp only [List.length_cons, List.length_nil, List.cons_append, List.nil_append, Nat.reduceAdd, Nat.zero_add, List.set_cons_succ, List.set_cons_zero]
  refine mj_put d_Mod_init_31 fd_Mod_19 ft_Mod_3 rfl (Nat.le_of_ble_eq_true rfl) rfl rfl ?_
  try simp only [List.length_cons, List.length_nil, List.cons_append, List.nil_append, Nat.reduceAdd, Nat.zero_add, List.set_cons_succ, List.set_cons_zero]
  refine mj_aload_n d_Mod_init_34 rfl ?_
  refine mj_bipush d_Mod_init_35 (nI 12) (by decide) ?_
  refine mj_newi 12 d_Mod_init_37 q_31 (by decide) (by decide) (by decide) (by decide) (by decide) ?_
  try simp only [List.length_cons, List.length_nil, List.cons_append, List.nil_append, Nat.reduceAdd, Nat.zero_add, List.set_cons_succ, List.set_cons_zero]
  refine mj_put d_Mod_init_39 fd_Mod_22 ft_Mod_4 rfl (Nat.le_of_ble_eq_true rfl) rfl rfl ?_
  try simp only [List.length_cons, List.length_nil, List.cons_append, List.nil_append, Nat.reduceAdd, Nat.zero_add, List.set_cons_succ, List.set_cons_zero]
  refine mj_aload_n d_Mod_init_42 rfl ?_
  refine mj_sipush d_Mod_init_43 (nI 360) (by decide) ?_
  refine mj_newi 360 d_Mod_init_46 q_31 (by decide) (by decide) (by decide) (by decide) (by decide) ?_
  try simp only [List.length_cons, List.length_nil, List.cons_append, List.nil_append, Nat.reduceAdd, Nat.zero_add, List.set_cons_succ, List.set_cons_zero]
  refine mj_put d_Mod_init_48 fd_Mod_25 ft_Mod_5 rfl (Nat.le_of_ble_eq_true rfl) rfl rfl ?_
  try simp only [List.length_cons, List.length_nil, List.cons_append, List.nil_append, Nat.reduceAdd, Nat.zero_add, List.set_cons_succ, List.set_cons_zero]
  refine mj_aload_n d_Mod_init_51 rfl ?_
  refine mj_iconst d_Mod_init_52 (nI 3) (by decide) ?_
  refine mj_put d_Mod_init_53 fd_Mod_28 ft_Mod_7 rfl (Nat.le_of_ble_eq_true rfl) rfl rfl ?_
  try simp only [List.length_cons, List.length_nil, List.cons_append, List.nil_append, Nat.reduceAdd, Nat.zero_add, List.set_cons_succ, List.set_cons_zero]
  refine mj_aload_n d_Mod_init_56 rfl ?_
  refine mj_bipush d_Mod_init_57 (nI 40) (by decide) ?_
  refine mj_newi 40 d_Mod_init_59 q_31 (by decide) (by decide) (by decide) (by decide) (by decide) ?_
  try simp only [List.length_cons, List.length_nil, List.cons_append, List.nil_append, Nat.reduceAdd, Nat.zero_add, List.set_cons_succ, List.set_cons_zero]
  refine mj_put d_Mod_init_61 fd_Mod_32 ft_Mod_13 rfl (Nat.le_of_ble_eq_true rfl) rfl rfl ?_
  try simp only [List.length_cons, List.length_nil, List.cons_append, List.nil_append, Nat.reduceAdd, Nat.zero_add, List.set_cons_succ, List.set_cons_zero]
  refine mj_aload_n d_Mod_init_64 rfl ?_
  refine mj_bipush d_Mod_init_65 (nI 64) (by decide) ?_
  refine mj_newi 64 d_Mod_init_67 q_31 (by decide) (by decide) (by decide) (by decide) (by decide) ?_
  try simp only [List.length_cons, List.length_nil, List.cons_append, List.nil_append, Nat.reduceAdd, Nat.zero_add, List.set_cons_succ, List.set_cons_zero]
  refine mj_put d_Mod_init_69 fd_Mod_35 ft_Mod_15 rfl (Nat.le_of_ble_eq_true rfl) rfl rfl ?_
  try simp only [List.length_cons, List.length_nil, List.cons_append, List.nil_append, Nat.reduceAdd, Nat.zero_add, List.set_cons_succ, List.set_cons_zero]
  refine mj_aload_n d_Mod_init_72 rfl ?_
  refine mj_bipush d_Mod_init_73 (nI 16) (by decide) ?_
  refine mj_newi 16 d_Mod_init_75 q_31 (by decide) (by decide) (by decide) (by decide) (by decide) ?_
  try simp only [List.length_cons, List.length_nil, List.cons_append, List.nil_append, Nat.reduceAdd, Nat.zero_add, List.set_cons_succ, List.set_cons_zero]
  refine mj_put d_Mod_init_77 fd_Mod_38 ft_Mod_16 rfl (Nat.le_of_ble_eq_true rfl) rfl rfl ?_
  try simp only [List.length_cons, List.length_nil, List.cons_append, List.nil_append, Nat.reduceAdd, Nat.zero_add, List.set_cons_succ, List.set_cons_zero]
  refine mj_aload_n d_Mod_init_80 rfl ?_
  refine mj_sipush d_Mod_init_81 (nI 256) (by decide) ?_
  refine mj_newi 256 d_Mod_init_84 q_31 (by decide) (by decide) (by decide) (by decide) (by decide) ?_
  try simp only [List.length_cons, List.length_nil, List.cons_append, List.nil_append, Nat.reduceAdd, Nat.zero_add, List.set_cons_succ, List.set_cons_zero]
  refine mj_put d_Mod_init_86 fd_Mod_41 ft_Mod_17 rfl (Nat.le_of_ble_eq_true rfl) rfl rfl ?_
  try simp only [List.length_cons, List.length_nil, List.cons_append, List.nil_append, Nat.reduceAdd, Nat.zero_add, List.set_cons_succ, List.set_cons_zero]
  refine mj_aload_n d_Mod_init_89 rfl ?_
  refine mj_sipush d_Mod_init_90 (nI 176) (by decide) ?_
  refine mj_newi 176 d_Mod_init_93 q_31 (by decide) (by decide) (by decide) (by decide) (by decide) ?_
  try simp only [List.length_cons, List.length_nil, List.cons_append, List.nil_append, Nat.reduceAdd, Nat.zero_add, List.set_cons_succ, List.set_cons_zero]
  refine mj_put d_Mod_init_95 fd_Mod_44 ft_Mod_18 rfl (Nat.le_of_ble_eq_true rfl) rfl rfl ?_
  try simp only [List.length_cons, List.length_nil, List.cons_append, List.nil_append, Nat.reduceAdd, Nat.zero_add, List.set_cons_succ, List.set_cons_zero]
  refine mj_aload_n d_Mod_init_98 rfl ?_
  refine mj_bipush d_Mod_init_99 (nI 16) (by decide) ?_
  refine mj_newi 16 d_Mod_init_101 q_31 (by decide) (by decide) (by decide) (by decide) (by decide) ?_
  try simp only [List.length_cons, List.length_nil, List.cons_append, List.nil_append, Nat.reduceAdd, Nat.zero_add, List.set_cons_succ, List.set_cons_zero]
  refine mj_put d_Mod_init_103 fd_Mod_47 ft_Mod_19 rfl (Nat.le_of_ble_eq_true rfl) rfl rfl ?_
  try simp only [List.length_cons, List.length_nil, List.cons_append, List.nil_append, Nat.reduceAdd, Nat.zero_add, List.set_cons_succ, List.set_cons_zero]
  refine mj_aload_n d_Mod_init_106 rfl ?_
  refine mj_bipush d_Mod_init_107 (nI 16) (by decide) ?_
  refine mj_newi 16 d_Mod_init_109 q_31 (by decide) (by decide) (by decide) (by decide) (by decide) ?_
  try simp only [List.length_cons, List.length_nil, List.cons_append, List.nil_append, Nat.reduceAdd, Nat.zero_add, List.set_cons_succ, List.set_cons_zero]
  refine mj_put d_Mod_init_111 fd_Mod_50 ft_Mod_20 rfl (Nat.le_of_ble_eq_true rfl) rfl rfl ?_
  try simp only [List.length_cons, List.length_nil, List.cons_append, List.nil_append, Nat.reduceAdd, Nat.zero_add, List.set_cons_succ, List.set_cons_zero]
  refine mj_aload_n d_Mod_init_114 rfl ?_
  refine mj_bipush d_Mod_init_115 (nI 64) (by decide) ?_
  refine mj_newi 64 d_Mod_init_117 q_31 (by decide) (by decide) (by decide) (by decide) (by decide) ?_
  try simp only [List.length_cons, List.length_nil, List.cons_append, List.nil_append, Nat.reduceAdd, Nat.zero_add, List.set_cons_succ, List.set_cons_zero]
  refine mj_put d_Mod_init_119 fd_Mod_53 ft_Mod_21 rfl (Nat.le_of_ble_eq_true rfl) rfl rfl ?_
  try simp only [List.length_cons, List.length_nil, List.cons_append, List.nil_append, Nat.reduceAdd, Nat.zero_add, List.set_cons_succ, List.set_cons_zero]
  refine mj_aload_n d_Mod_init_122 rfl ?_
  refine mj_bipush d_Mod_init_123 (nI 16) (by decide) ?_
  refine mj_newi 16 d_Mod_init_125 q_31 (by decide) (by decide) (by decide) (by decide) (by decide) ?_
  try simp only [List.length_cons, List.length_nil, List.cons_append, List.nil_append, Nat.reduceAdd, Nat.zero_add, List.set_cons_succ, List.set_cons_zero]
  refine mj_put d_Mod_init_127 fd_Mod_56 ft_Mod_22 rfl (Nat.le_of_ble_eq_true rfl) rfl rfl ?_
  try simp only [List.length_cons, List.length_nil, List.cons_append, List.nil_append, Nat.reduceAdd, Nat.zero_add, List.set_cons_succ, List.set_cons_zero]
  refine mj_aload_n d_Mod_init_130 rfl ?_
  refine mj_bipush d_Mod_init_131 (nI 16) (by decide) ?_
  refine mj_newi 16 d_Mod_init_133 q_31 (by decide) (by decide) (by decide) (by decide) (by decide) ?_
  try simp only [List.length_cons, List.length_nil, List.cons_append, List.nil_append, Nat.reduceAdd, Nat.zero_add, List.set_cons_succ, List.set_cons_zero]
  refine mj_put d_Mod_init_135 fd_Mod_59 ft_Mod_23 rfl (Nat.le_of_ble_eq_true rfl) rfl rfl ?_
  try simp only [List.length_cons, List.length_nil, List.cons_append, List.nil_append, Nat.reduceAdd, Nat.zero_add, List.set_cons_succ, List.set_cons_zero]
  refine mj_aload_n d_Mod_init_138 rfl ?_
  refine mj_bipush d_Mod_init_139 (nI 40) (by decide) ?_
  refine mj_newi 40 d_Mod_init_141 q_31 (by decide) (by decide) (by decide) (by decide) (by decide) ?_
  try simp only [List.length_cons, List.length_nil, List.cons_append, List.nil_append, Nat.reduceAdd, Nat.zero_add, List.set_cons_succ, List.set_cons_zero]
  refine mj_put d_Mod_init_143 fd_Mod_62 ft_Mod_24 rfl (Nat.le_of_ble_eq_true rfl) rfl rfl ?_
  try simp only [List.length_cons, List.length_nil, List.cons_append, List.nil_append, Nat.reduceAdd, Nat.zero_add, List.set_cons_succ, List.set_cons_zero]
  refine mj_iconst d_Mod_init_146 (nI 0) (by decide) ?_
  refine mj_istore_n d_Mod_init_147 (by decide) ?_
  dsimp only [mSt1, mSt2, mKill, Nat.reduceAdd]
  exact lt_init kk 256 0 _ (by omega) (fun j hj => by omega)
