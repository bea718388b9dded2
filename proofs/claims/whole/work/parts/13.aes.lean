def sbL : List Nat := [99, 124, 119, 123, 242, 107, 111, 197, 48, 1, 103, 43, 254, 215, 171, 118, 202, 130, 201, 125, 250, 89, 71, 240, 173, 212, 162, 175, 156, 164, 114, 192, 183, 253, 147, 38, 54, 63, 247, 204, 52, 165, 229, 241, 113, 216, 49, 21, 4, 199, 35, 195, 24, 150, 5, 154, 7, 18, 128, 226, 235, 39, 178, 117, 9, 131, 44, 26, 27, 110, 90, 160, 82, 59, 214, 179, 41, 227, 47, 132, 83, 209, 0, 237, 32, 252, 177, 91, 106, 203, 190, 57, 74, 76, 88, 207, 208, 239, 170, 251, 67, 77, 51, 133, 69, 249, 2, 127, 80, 60, 159, 168, 81, 163, 64, 143, 146, 157, 56, 245, 188, 182, 218, 33, 16, 255, 243, 210, 205, 12, 19, 236, 95, 151, 68, 23, 196, 167, 126, 61, 100, 93, 25, 115, 96, 129, 79, 220, 34, 42, 144, 136, 70, 238, 184, 20, 222, 94, 11, 219, 224, 50, 58, 10, 73, 6, 36, 92, 194, 211, 172, 98, 145, 149, 228, 121, 231, 200, 55, 109, 141, 213, 78, 169, 108, 86, 244, 234, 101, 122, 174, 8, 186, 120, 37, 46, 28, 166, 180, 198, 232, 221, 116, 31, 75, 189, 139, 138, 112, 62, 181, 102, 72, 3, 246, 14, 97, 53, 87, 185, 134, 193, 29, 158, 225, 248, 152, 17, 105, 217, 142, 148, 155, 30, 135, 233, 206, 85, 40, 223, 140, 161, 137, 13, 191, 230, 66, 104, 65, 153, 45, 15, 176, 84, 187, 22]
def sbN (b : Nat) : Nat := sbL.getD b 0
theorem sb_ok : ∀ j, j < 256 → mSf j = nI (sbN j) := by decide +kernel
theorem sb_lt : ∀ j, j < 256 → sbN j < 256 := by decide +kernel
def x2 (b : Nat) : Nat := if 127 < b then (2 * b) ^^^ 283 else 2 * b
theorem x2_lt : ∀ b, b < 256 → x2 b < 256 := by decide +kernel
theorem nI_xor (a b : Nat) : nI a ^^^ nI b = nI (a ^^^ b) := by
  apply Int32.toBitVec_inj.1
  show BitVec.ofNat 32 a ^^^ BitVec.ofNat 32 b = BitVec.ofNat 32 (a ^^^ b)
  apply BitVec.eq_of_getLsbD_eq
  intro i hi
  simp [hi]
theorem nI_or (a b : Nat) : nI a ||| nI b = nI (a ||| b) := by
  apply Int32.toBitVec_inj.1
  show BitVec.ofNat 32 a ||| BitVec.ofNat 32 b = BitVec.ofNat 32 (a ||| b)
  apply BitVec.eq_of_getLsbD_eq
  intro i hi
  simp [hi]
theorem nI_and255 {t : Nat} (h : t < 2 ^ 32) : nI t &&& nI 255 = nI (t % 256) := i_and255 h
theorem nI_shl1 {t : Nat} (h : t < 2 ^ 30) : nI t <<< (nI 1 &&& 31) = nI (2 * t) := by
  rw [pk_shlN (nI 1 &&& 31) 1 (by decide) (by omega), Nat.mul_comm]
theorem nI_shr7 {t : Nat} (h : t < 2 ^ 31) : nI t >>> (nI 7 &&& 31) = nI (t / 128) := pk_shrN h (nI 7 &&& 31) 7 (by decide)
theorem xor_lt {a b : Nat} (ha : a < 256) (hb : b < 256) : a ^^^ b < 256 := Nat.xor_lt_two_pow (n := 8) ha hb
theorem or_lt {a b : Nat} (ha : a < 256) (hb : b < 256) : a ||| b < 256 := Nat.or_lt_two_pow (n := 8) ha hb
/-- an array holds the numbers g at its first N places -/
def FA (N : Nat) (g : Nat → Nat) (f : Nat → Int32) : Prop := ∀ j, j < N → f j = nI (g j)
def Bt (N : Nat) (g : Nat → Nat) : Prop := ∀ j, j < N → g j < 256
theorem FA_s {N : Nat} {g : Nat → Nat} {f : Nat → Int32} (h : FA N g f) : FA (N + 1) g (upd f N (nI (g N))) := by
  intro j hj
  by_cases e : j = N
  · subst e; exact pk_us
  · rw [pk_un e]; exact h j (by omega)
theorem FA_c {N : Nat} {g g' : Nat → Nat} {f : Nat → Int32} (h : FA N g f) (hg : ∀ j, j < N → g j = g' j) : FA N g' f := fun j hj => by rw [h j hj, hg j hj]
theorem FA_le {N M : Nat} {g : Nat → Nat} {f : Nat → Int32} (h : FA N g f) (hm : M ≤ N) : FA M g f := fun j hj => h j (by omega)
/-- the first i places hold a already, the others b still -/
def pu (i : Nat) (a b : Nat → Nat) : Nat → Nat := fun j => if j < i then a j else b j
theorem pu_s {N i : Nat} {a b : Nat → Nat} {f : Nat → Int32} (h : FA N (pu i a b) f) : FA N (pu (i + 1) a b) (upd f i (nI (a i))) := by
  intro j hj
  by_cases e : j = i
  · subst e; rw [pk_us]; simp [pu]
  · rw [pk_un e, h j hj]
    simp only [pu]
    by_cases h1 : j < i
    · rw [if_pos h1, if_pos (by omega)]
    · rw [if_neg h1, if_neg (by omega)]
theorem pu_0 {N : Nat} {a b : Nat → Nat} {f : Nat → Int32} (h : FA N b f) : FA N (pu 0 a b) f := FA_c h (fun j _ => by simp [pu])
theorem pu_e {N i : Nat} {a b : Nat → Nat} {f : Nat → Int32} (h : FA N (pu i a b) f) (hi : N ≤ i) : FA N a f := FA_c h (fun j hj => by rw [pu, if_pos (by omega)])
theorem pu_hi {i j : Nat} {a b : Nat → Nat} (h : i ≤ j) : pu i a b j = b j := by rw [pu, if_neg (by omega)]
theorem pu_lo {i j : Nat} {a b : Nat → Nat} (h : j < i) : pu i a b j = a j := by rw [pu, if_pos h]
-- the cipher
def addk (rk : Nat → Nat) (r : Nat) (g : Nat → Nat) : Nat → Nat := fun k => g k ^^^ rk (16 * r + k)
def sub1 (g : Nat → Nat) : Nat → Nat := fun k => sbN (g (k % 4 + 4 * ((k / 4 + k % 4) % 4)))
def mix1 (g : Nat → Nat) : Nat → Nat := fun k => g k ^^^ ((g (4 * (k / 4)) ^^^ g (4 * (k / 4) + 1) ^^^ g (4 * (k / 4) + 2) ^^^ g (4 * (k / 4) + 3)) ^^^ x2 (g k ^^^ g (4 * (k / 4) + (k + 1) % 4)))
def encS (rk g : Nat → Nat) : Nat → Nat → Nat
  | 0 => addk rk 0 g
  | r + 1 => addk rk (r + 1) (if r + 1 < 10 then mix1 (sub1 (encS rk g r)) else sub1 (encS rk g r))
def enc (rk g : Nat → Nat) : Nat → Nat := encS rk g 10
theorem addk_lt {rk g : Nat → Nat} {r : Nat} (hr : r ≤ 10) (h1 : Bt 176 rk) (h2 : Bt 16 g) : Bt 16 (addk rk r g) := fun j hj => xor_lt (h2 j hj) (h1 _ (by omega))
theorem sub1_lt {g : Nat → Nat} (h : Bt 16 g) : Bt 16 (sub1 g) := fun j hj => sb_lt _ (h _ (by omega))
theorem mix1_lt {g : Nat → Nat} (h : Bt 16 g) : Bt 16 (mix1 g) := fun j hj => xor_lt (h j hj) (xor_lt (xor_lt (xor_lt (xor_lt (h _ (by omega)) (h _ (by omega))) (h _ (by omega))) (h _ (by omega))) (x2_lt _ (xor_lt (h j hj) (h _ (by omega)))))
theorem encS_lt {rk g : Nat → Nat} (h1 : Bt 176 rk) (h2 : Bt 16 g) : ∀ r, r ≤ 10 → Bt 16 (encS rk g r)
  | 0, _ => addk_lt (by omega) h1 h2
  | r + 1, hr => by
    rw [encS]
    refine addk_lt hr h1 ?_
    split
    · exact mix1_lt (sub1_lt (encS_lt h1 h2 r (by omega)))
    · exact sub1_lt (encS_lt h1 h2 r (by omega))
theorem enc_lt {rk g : Nat → Nat} (h1 : Bt 176 rk) (h2 : Bt 16 g) : Bt 16 (enc rk g) := encS_lt h1 h2 10 (Nat.le_refl _)
def rcon : Nat → Nat
  | 0 => 0
  | 1 => 1
  | a + 2 => x2 (rcon (a + 1))
theorem rcon_lt : ∀ a, a < 12 → rcon a < 256 := by decide +kernel
/-- the round keys of a key -/
def rkF (g : Nat → Nat) (n : Nat) : Nat :=
  if h : n < 16 then g n
  else if n % 16 = 0 then (rkF g (n - 16) ^^^ sbN (rkF g (n - 3))) ^^^ rcon (n / 16)
  else if n % 16 < 3 then rkF g (n - 16) ^^^ sbN (rkF g (n - 3))
  else if n % 16 = 3 then rkF g (n - 16) ^^^ sbN (rkF g (n - 7))
  else rkF g (n - 16) ^^^ rkF g (n - 4)
termination_by n
decreasing_by all_goals omega
theorem rkF_lt {g : Nat → Nat} (hg : Bt 16 g) : ∀ n, n < 176 → rkF g n < 256 := by
  intro n
  induction n using Nat.strongRecOn with
  | ind n ih =>
    intro hn
    rw [rkF]
    split
    · next h => exact hg n h
    · next h =>
      split
      · exact xor_lt (xor_lt (ih _ (by omega) (by omega)) (sb_lt _ (ih _ (by omega) (by omega)))) (rcon_lt _ (by omega))
      · split
        · exact xor_lt (ih _ (by omega) (by omega)) (sb_lt _ (ih _ (by omega) (by omega)))
        · split
          · exact xor_lt (ih _ (by omega) (by omega)) (sb_lt _ (ih _ (by omega) (by omega)))
          · exact xor_lt (ih _ (by omega) (by omega)) (ih _ (by omega) (by omega))
/-- doubling -/
def dbl0 (g : Nat → Nat) : Nat → Nat := fun k => (2 * g k % 256) ||| (if k + 1 < 16 then g (k + 1) / 128 else 0)
def dbl (g : Nat → Nat) : Nat → Nat := fun k => if k = 15 ∧ 127 < g 0 then dbl0 g 15 ^^^ 135 else dbl0 g k
theorem dbl0_lt {g : Nat → Nat} (h : Bt 16 g) : Bt 16 (dbl0 g) := fun j hj => by
  refine or_lt (Nat.mod_lt _ (by decide)) ?_
  split
  · have := h (j + 1) (by omega); omega
  · decide
theorem dbl_lt {g : Nat → Nat} (h : Bt 16 g) : Bt 16 (dbl g) := fun j hj => by
  unfold dbl
  split
  · exact xor_lt (dbl0_lt h 15 (by decide)) (by decide)
  · exact dbl0_lt h j hj
theorem dbl_hi {g : Nat → Nat} {t : Nat → Int32} (ht : FA 16 (dbl0 g) t) (h : 127 < g 0) : FA 16 (dbl g) (upd t 15 (nI (dbl0 g 15 ^^^ 135))) := by
  intro j hj
  by_cases e : j = 15
  · subst e
    rw [pk_us, dbl, if_pos ⟨rfl, h⟩]
  · rw [pk_un e, ht j hj, dbl, if_neg (fun z => e z.1)]
theorem dbl_lo {g : Nat → Nat} {t : Nat → Int32} (ht : FA 16 (dbl0 g) t) (h : g 0 ≤ 127) : FA 16 (dbl g) t := by
  intro j hj
  rw [ht j hj, dbl, if_neg (fun z => by omega)]
theorem s_Sea_twice {L : Nat} {xs : Nat → Int32} {Post : Option Value → mHeap → Prop} {h : mHeap} {b : Nat} (hb : b < 256) (kP : Post (some (.int (nI (x2 b)))) h) : mMet M_Sea_twice L xs (0, 0) 0 0 [.int (nI b)] h Post := by
  refine mMet_of rfl (Nat.le_of_ble_eq_true rfl) ?_
  refine mj_iload_n d_Sea_twice_0 rfl ?_
  refine mj_iconst d_Sea_twice_1 (nI 1) (by decide) ?_
  refine mj_ishl d_Sea_twice_2 ?_
  refine mj_iload_n d_Sea_twice_3 rfl ?_
  refine mj_bipush d_Sea_twice_4 (nI 127) (by decide) ?_
  refine mj_icmpleN d_Sea_twice_6 15 rfl (by omega) (fun c_6 => ?_) (fun c_6 => ?_)
  · refine mj_iconst d_Sea_twice_15 (nI 0) (by decide) ?_
    refine mj_ixor d_Sea_twice_16 ?_
    refine mj_iret d_Sea_twice_17 rfl rfl (Nat.le_refl _) (Nat.le_refl _) ?_
    rw [nI_shl1 (by omega), nI_xor]
    first
      | (rw [show 2 * b ^^^ 283 = x2 b by rw [x2, if_pos (by omega)]]; exact kP)
      | (rw [Nat.xor_zero, show 2 * b = x2 b by rw [x2, if_neg (by omega)]]; exact kP)
  · refine mj_sipush d_Sea_twice_9 (nI 283) (by decide) ?_
    refine mj_goto d_Sea_twice_12 16 rfl ?_
    refine mj_ixor d_Sea_twice_16 ?_
    refine mj_iret d_Sea_twice_17 rfl rfl (Nat.le_refl _) (Nat.le_refl _) ?_
    rw [nI_shl1 (by omega), nI_xor]
    first
      | (rw [show 2 * b ^^^ 283 = x2 b by rw [x2, if_pos (by omega)]]; exact kP)
      | (rw [Nat.xor_zero, show 2 * b = x2 b by rw [x2, if_neg (by omega)]]; exact kP)
theorem lp_fill {L : Nat} {xs : Nat → Int32} {Post : Option Value → mHeap → Prop} {h : mHeap} {a n : Nat} {f : Nat → Int32} {v : Int32} (ha : h[a]? = some (cArr n f)) (hn : n < 1000) (kP : ∀ f', (∀ j, j < n → f' j = v) → Post none (h.set a (cArr n f'))) : ∀ (m i : Nat) (g : Nat → Int32), i + m = n → (∀ j, j < i → g j = v) → mGo M_Arr_fill L xs (0, 0) 0 0 Post 0 0 5 [some (.ref a), some (.int v), some (.int (nI i)), some (.int (nI n))] [] (h.set a (cArr n g)) := by
  intro m
  induction m with
  | zero =>
    intro i g hi hg
    refine mj_iload_n d_Arr_fill_5 rfl ?_
    refine mj_iload_n d_Arr_fill_6 rfl ?_
    refine mj_icmpgeN d_Arr_fill_7 20 rfl (by omega) (fun c_7 => ?_) (fun c_7 => ?_)
    · refine mj_vret d_Arr_fill_20 rfl (Nat.le_refl _) (Nat.le_refl _) ?_
      exact kP g (fun j hj => hg j (by omega))
    · omega
  | succ m ih =>
    intro i g hi hg
    refine mj_iload_n d_Arr_fill_5 rfl ?_
    refine mj_iload_n d_Arr_fill_6 rfl ?_
    refine mj_icmpgeN d_Arr_fill_7 20 rfl (by omega) (fun c_7 => ?_) (fun c_7 => ?_)
    · omega
    · refine mj_aload_n d_Arr_fill_10 rfl ?_
      refine mj_iload_n d_Arr_fill_11 rfl ?_
      refine mj_iload_n d_Arr_fill_12 rfl ?_
      refine mj_iastN d_Arr_fill_13 (gself ha) (by omega) ?_
      rw [List.set_set]
      refine mj_iinc d_Arr_fill_14 rfl (by decide) (nI (i + 1)) (nI_1 i) ?_
      dsimp only [mSt1, mSt2, mKill, Nat.reduceAdd]
      refine mj_goto d_Arr_fill_17 5 rfl ?_
      refine ih (i + 1) (upd g i v) (by omega) (fun j hj => ?_)
      by_cases e : j = i
      · subst e; exact pk_us
      · rw [pk_un e]; exact hg j (by omega)
theorem s_Arr_fill {L : Nat} {xs : Nat → Int32} {Post : Option Value → mHeap → Prop} {h : mHeap} {a n : Nat} {f : Nat → Int32} {v : Int32} (ha : h[a]? = some (cArr n f)) (hn : n < 1000) (kP : ∀ f', (∀ j, j < n → f' j = v) → Post none (h.set a (cArr n f'))) : mMet M_Arr_fill L xs (0, 0) 0 0 [.ref a, .int v] h Post := by
  refine mMet_of rfl (Nat.le_of_ble_eq_true rfl) ?_
  refine mj_iconst d_Arr_fill_0 (nI 0) (by decide) ?_
  refine mj_istore_n d_Arr_fill_1 (by decide) ?_
  dsimp only [mSt1, mSt2, mKill, Nat.reduceAdd]
  refine mj_aload_n d_Arr_fill_2 rfl ?_
  refine mj_alen d_Arr_fill_3 ha ?_
  refine mj_istore_n d_Arr_fill_4 (by decide) ?_
  dsimp only [mSt1, mSt2, mKill, Nat.reduceAdd]
  have e := lp_fill ha hn kP (L := L) (xs := xs) n 0 f (by omega) (fun j hj => by omega)
  rw [set_same ha] at e
  exact e
theorem lp_doubleRow {L : Nat} {xs : Nat → Int32} {Post : Option Value → mHeap → Prop} {h : mHeap} {a b : Nat} {f f0 : Nat → Int32} {g : Nat → Nat} (ha : h[a]? = some (cArr 16 f)) (hbb : h[b]? = some (cArr 16 f0)) (hab : a ≠ b) (hg : FA 16 g f) (hb : Bt 16 g) (kP : ∀ f', FA 16 (dbl g) f' → Post none (h.set b (cArr 16 f'))) : ∀ (m i : Nat) (t : Nat → Int32) (w : Option Value), i + m = 16 → FA i (dbl0 g) t → mGo M_Sea_doubleRow L xs (0, 0) 0 0 Post 0 0 2 [some (.ref a), some (.ref b), some (.int (nI i)), w] [] (h.set b (cArr 16 t)) := by
  intro m
  induction m with
  | zero =>
    intro i t w hi ht
    refine mj_iload_n d_Sea_doubleRow_2 rfl ?_
    refine mj_bipush d_Sea_doubleRow_3 (nI 16) (by decide) ?_
    refine mj_icmpgeN d_Sea_doubleRow_5 49 rfl (by omega) (fun c_5 => ?_) (fun c_5 => ?_)
    · refine mj_aload_n d_Sea_doubleRow_49 rfl ?_
      refine mj_iconst d_Sea_doubleRow_50 (nI 0) (by decide) ?_
      refine mj_ialdN d_Sea_doubleRow_51 (gne ha hab.symm) (by omega) ?_
      rw [hg 0 (by decide)]
      refine mj_bipush d_Sea_doubleRow_52 (nI 127) (by decide) ?_
      refine mj_icmpleN d_Sea_doubleRow_54 67 rfl (by have := hb 0 (by decide); omega) (fun c_54 => ?_) (fun c_54 => ?_)
      · refine mj_vret d_Sea_doubleRow_67 rfl (Nat.le_refl _) (Nat.le_refl _) ?_
        have ei : i = 16 := by omega
        subst ei
        first
          | (rw [List.set_set]; exact kP _ (dbl_hi ht (by omega)))
          | exact kP _ (dbl_lo ht (by omega))
      · refine mj_aload_n d_Sea_doubleRow_57 rfl ?_
        refine mj_bipush d_Sea_doubleRow_58 (nI 15) (by decide) ?_
        refine mj_dup2 d_Sea_doubleRow_60 rfl rfl ?_
        refine mj_ialdN d_Sea_doubleRow_61 (gself hbb) (by omega) ?_
        rw [ht 15 (by omega)]
        refine mj_sipush d_Sea_doubleRow_62 (nI 135) (by decide) ?_
        refine mj_ixor d_Sea_doubleRow_65 ?_
        rw [nI_xor]
        refine mj_iastN d_Sea_doubleRow_66 (gself hbb) (by omega) ?_
        refine mj_vret d_Sea_doubleRow_67 rfl (Nat.le_refl _) (Nat.le_refl _) ?_
        have ei : i = 16 := by omega
        subst ei
        first
          | (rw [List.set_set]; exact kP _ (dbl_hi ht (by omega)))
          | exact kP _ (dbl_lo ht (by omega))
    · omega
  | succ m ih =>
    intro i t w hi ht
    refine mj_iload_n d_Sea_doubleRow_2 rfl ?_
    refine mj_bipush d_Sea_doubleRow_3 (nI 16) (by decide) ?_
    refine mj_icmpgeN d_Sea_doubleRow_5 49 rfl (by omega) (fun c_5 => ?_) (fun c_5 => ?_)
    · omega
    · refine mj_iload_n d_Sea_doubleRow_8 rfl ?_
      refine mj_iconst d_Sea_doubleRow_9 (nI 1) (by decide) ?_
      refine mj_iadd d_Sea_doubleRow_10 ?_
      rw [show nI 1 = (1 : Int32) from rfl, nI_1]
      refine mj_bipush d_Sea_doubleRow_11 (nI 16) (by decide) ?_
      refine mj_icmpgeN d_Sea_doubleRow_13 27 rfl (by omega) (fun c_13 => ?_) (fun c_13 => ?_)
      · refine mj_iconst d_Sea_doubleRow_27 (nI 0) (by decide) ?_
        refine mj_istore_n d_Sea_doubleRow_28 (by decide) ?_
        dsimp only [mSt1, mSt2, mKill, Nat.reduceAdd]
        refine mj_aload_n d_Sea_doubleRow_29 rfl ?_
        refine mj_iload_n d_Sea_doubleRow_30 rfl ?_
        refine mj_aload_n d_Sea_doubleRow_31 rfl ?_
        refine mj_iload_n d_Sea_doubleRow_32 rfl ?_
        refine mj_ialdN d_Sea_doubleRow_33 (gne ha hab.symm) (by omega) ?_
        rw [hg _ (by omega)]
        refine mj_iconst d_Sea_doubleRow_34 (nI 1) (by decide) ?_
        refine mj_ishl d_Sea_doubleRow_35 ?_
        refine mj_sipush d_Sea_doubleRow_36 (nI 255) (by decide) ?_
        refine mj_iand d_Sea_doubleRow_39 ?_
        rw [nI_shl1 (by have := hb i (by omega); omega), nI_and255 (by have := hb i (by omega); omega)]
        refine mj_iload_n d_Sea_doubleRow_40 rfl ?_
        refine mj_ior d_Sea_doubleRow_41 ?_
        rw [nI_or]
        refine mj_iastN d_Sea_doubleRow_42 (gself hbb) (by omega) ?_
        rw [List.set_set]
        refine mj_iinc d_Sea_doubleRow_43 rfl (by decide) (nI (i + 1)) (nI_1 i) ?_
        dsimp only [mSt1, mSt2, mKill, Nat.reduceAdd]
        refine mj_goto d_Sea_doubleRow_46 2 rfl ?_
        refine ih (i + 1) (upd t i _) _ (by omega) ?_
        have e := FA_s ht (g := dbl0 g)
        first
          | (rw [show dbl0 g i = (2 * g i % 256) ||| (g (i + 1) / 128) by rw [dbl0, if_pos (by omega)]] at e; exact e)
          | (rw [show dbl0 g i = (2 * g i % 256) ||| 0 by rw [dbl0, if_neg (by omega)]] at e; exact e)
      · refine mj_aload_n d_Sea_doubleRow_16 rfl ?_
        refine mj_iload_n d_Sea_doubleRow_17 rfl ?_
        refine mj_iconst d_Sea_doubleRow_18 (nI 1) (by decide) ?_
        refine mj_iadd d_Sea_doubleRow_19 ?_
        rw [show nI 1 = (1 : Int32) from rfl, nI_1]
        refine mj_ialdN d_Sea_doubleRow_20 (gne ha hab.symm) (by omega) ?_
        rw [hg _ (by omega)]
        refine mj_bipush d_Sea_doubleRow_21 (nI 7) (by decide) ?_
        refine mj_ishr d_Sea_doubleRow_23 ?_
        rw [nI_shr7 (by have := hb (i + 1) (by omega); omega)]
        refine mj_goto d_Sea_doubleRow_24 28 rfl ?_
        refine mj_istore_n d_Sea_doubleRow_28 (by decide) ?_
        dsimp only [mSt1, mSt2, mKill, Nat.reduceAdd]
        refine mj_aload_n d_Sea_doubleRow_29 rfl ?_
        refine mj_iload_n d_Sea_doubleRow_30 rfl ?_
        refine mj_aload_n d_Sea_doubleRow_31 rfl ?_
        refine mj_iload_n d_Sea_doubleRow_32 rfl ?_
        refine mj_ialdN d_Sea_doubleRow_33 (gne ha hab.symm) (by omega) ?_
        rw [hg _ (by omega)]
        refine mj_iconst d_Sea_doubleRow_34 (nI 1) (by decide) ?_
        refine mj_ishl d_Sea_doubleRow_35 ?_
        refine mj_sipush d_Sea_doubleRow_36 (nI 255) (by decide) ?_
        refine mj_iand d_Sea_doubleRow_39 ?_
        rw [nI_shl1 (by have := hb i (by omega); omega), nI_and255 (by have := hb i (by omega); omega)]
        refine mj_iload_n d_Sea_doubleRow_40 rfl ?_
        refine mj_ior d_Sea_doubleRow_41 ?_
        rw [nI_or]
        refine mj_iastN d_Sea_doubleRow_42 (gself hbb) (by omega) ?_
        rw [List.set_set]
        refine mj_iinc d_Sea_doubleRow_43 rfl (by decide) (nI (i + 1)) (nI_1 i) ?_
        dsimp only [mSt1, mSt2, mKill, Nat.reduceAdd]
        refine mj_goto d_Sea_doubleRow_46 2 rfl ?_
        refine ih (i + 1) (upd t i _) _ (by omega) ?_
        have e := FA_s ht (g := dbl0 g)
        first
          | (rw [show dbl0 g i = (2 * g i % 256) ||| (g (i + 1) / 128) by rw [dbl0, if_pos (by omega)]] at e; exact e)
          | (rw [show dbl0 g i = (2 * g i % 256) ||| 0 by rw [dbl0, if_neg (by omega)]] at e; exact e)
theorem s_Sea_doubleRow {L : Nat} {xs : Nat → Int32} {Post : Option Value → mHeap → Prop} {h : mHeap} {a b : Nat} {f f0 : Nat → Int32} {g : Nat → Nat} (ha : h[a]? = some (cArr 16 f)) (hbb : h[b]? = some (cArr 16 f0)) (hab : a ≠ b) (hg : FA 16 g f) (hb : Bt 16 g) (kP : ∀ f', FA 16 (dbl g) f' → Post none (h.set b (cArr 16 f'))) : mMet M_Sea_doubleRow L xs (0, 0) 0 0 [.ref a, .ref b] h Post := by
  refine mMet_of rfl (Nat.le_of_ble_eq_true rfl) ?_
  refine mj_iconst d_Sea_doubleRow_0 (nI 0) (by decide) ?_
  refine mj_istore_n d_Sea_doubleRow_1 (by decide) ?_
  dsimp only [mSt1, mSt2, mKill, Nat.reduceAdd]
  have e := lp_doubleRow ha hbb hab hg hb kP (L := L) (xs := xs) 16 0 f0 none (by omega) (fun j hj => by omega)
  rw [set_same hbb] at e
  exact e
