/-! COMMANDS: the card's answer to a row of bytes, as the document says it -/
abbrev wfR (t : List Nat) : Prop := t.length = 4 ∨ (5 < t.length ∧ t.getD 4 0 = t.length - 5)
abbrev insN (t : List Nat) : Nat := 256 * t.getD 0 0 + t.getD 1 0
def datN (t : List Nat) : Nat := if 5 < t.length then t.length - 5 else 0
def cmN (i : Nat) : Nat := if i = 164 then 1 else if i = 32936 then 2 else if i = 178 then 3 else if i = 32 then 4 else if i = 32970 then 5 else if i = 32942 then 6 else 0
theorem cm_cases {i : Nat} (h : cmN i ≠ 0) : i = 164 ∨ i = 32936 ∨ i = 178 ∨ i = 32 ∨ i = 32970 ∨ i = 32942 := by
  unfold cmN at h
  by_cases h1 : i = 164
  · exact Or.inl h1
  by_cases h2 : i = 32936
  · exact Or.inr (Or.inl h2)
  by_cases h3 : i = 178
  · exact Or.inr (Or.inr (Or.inl h3))
  by_cases h4 : i = 32
  · exact Or.inr (Or.inr (Or.inr (Or.inl h4)))
  by_cases h5 : i = 32970
  · exact Or.inr (Or.inr (Or.inr (Or.inr (Or.inl h5))))
  by_cases h6 : i = 32942
  · exact Or.inr (Or.inr (Or.inr (Or.inr (Or.inr h6))))
  simp [h1, h2, h3, h4, h5, h6] at h
abbrev parOk (c p q : Nat) : Prop := (c = 1 ∧ p = 4 ∧ q = 0) ∨ (c = 2 ∧ p = 0 ∧ q = 0) ∨ (c = 3 ∧ q % 8 = 4) ∨ (c = 4 ∧ p = 0 ∧ q = 128) ∨ (c = 5 ∧ p = 159 ∧ (q = 54 ∨ q = 23)) ∨ (c = 6 ∧ (p = 0 ∨ p = 64 ∨ p = 128) ∧ q = 0)
abbrev stgOk (c sg cu : Nat) : Prop := c = 1 ∨ (c = 2 ∧ sg = 1 ∧ cu < 65535) ∨ (c = 3 ∧ 2 ≤ sg) ∨ (c = 4 ∧ sg = 2) ∨ c = 5 ∨ (c = 6 ∧ (sg = 2 ∨ sg = 3))
abbrev datOk (c n sg : Nat) : Prop := (c = 1 ∧ 5 ≤ n ∧ n ≤ 16) ∨ ((c = 2 ∨ c = 4) ∧ n = 8) ∨ (c = 6 ∧ ((sg = 2 ∧ n = 10) ∨ (sg ≠ 2 ∧ n = 12))) ∨ ((c = 3 ∨ c = 5) ∧ n = 0)
def faultN (t : List Nat) (sg cu : Nat) : Nat := if ¬ wfR t then 26368 else if t.getD 0 0 ≠ 0 ∧ t.getD 0 0 ≠ 128 then 28160 else if cmN (insN t) = 0 then 27904 else if ¬ parOk (cmN (insN t)) (t.getD 2 0) (t.getD 3 0) then 27270 else if ¬ stgOk (cmN (insN t)) sg cu then 27013 else if ¬ datOk (cmN (insN t)) (datN t) sg then 26368 else 36864
/-- what a command that is in order finds -/
theorem fault_ok {t : List Nat} {sg cu : Nat} (h : faultN t sg cu = 36864) : wfR t ∧ cmN (insN t) ≠ 0 ∧ parOk (cmN (insN t)) (t.getD 2 0) (t.getD 3 0) ∧ stgOk (cmN (insN t)) sg cu ∧ datOk (cmN (insN t)) (datN t) sg := by
  unfold faultN at h
  split at h
  · omega
  split at h
  · omega
  split at h
  · omega
  split at h
  · omega
  split at h
  · omega
  split at h
  · omega
  next h1 h2 h3 h4 h5 h6 => exact ⟨Decidable.not_not.mp h1, h3, Decidable.not_not.mp h4, Decidable.not_not.mp h5, Decidable.not_not.mp h6⟩
/-- status; answer; counter, tries, alone, stage, amount, proven -/
abbrev R8 : Type := Nat × List Nat × Nat × Nat × Nat × Nat × Nat × Nat
abbrev preOk (t nm : List Nat) : Prop := datN t ≤ 7 ∧ ∀ i, i < datN t → t.getD (5 + i) 0 = nm.getD i 0
def selR (nm : List Nat) : List Nat := [111, 23, 132, 7] ++ (nm ++ [165, 12, 80, 4, 67, 65, 82, 68, 159, 56, 3, 159, 2, 6])
/-- the entries of the files that have records, from file f (from 0) on, n of them -/
def entR (cnt : Nat → Nat) : Nat → Nat → List Nat
  | _, 0 => []
  | f, n + 1 => (if 0 < cnt f then [8 * (f + 1), 1, cnt f, 0] else []) ++ entR cnt (f + 1) n
def rdyR (cnt : Nat → Nat) : List Nat := [128, (entR cnt 0 4).length + 2, 24, 0] ++ entR cnt 0 4
abbrev shpOk (t : List Nat) : Prop := t.getD 5 0 = 36 ∧ t.getD 8 0 = 255 ∧ t.getD 9 0 = 255 ∧ t.getD 10 0 = 255 ∧ t.getD 11 0 = 255 ∧ t.getD 12 0 = 255 ∧ t.getD 6 0 / 16 ≤ 9 ∧ t.getD 6 0 % 16 ≤ 9 ∧ t.getD 7 0 / 16 ≤ 9 ∧ t.getD 7 0 % 16 ≤ 9
def pinN (t : List Nat) : Nat := (t.getD 6 0 / 16 * 10 + t.getD 6 0 % 16) * 100 + (t.getD 7 0 / 16 * 10 + t.getD 7 0 % 16)
def amtN (t : List Nat) (p c : Nat) : Nat := beV ((t.drop p).take c)
def givN (t : List Nat) (am sg an pv : Nat) : Nat := if amtN t 5 6 ≠ am ∨ t.getD 2 0 = 0 then 0 else if sg = 2 then (if t.getD 2 0 = 128 ∨ pv = 0 ∨ 2 ≤ an then 128 else 64) else (if t.getD 2 0 = 64 ∧ t.getD 15 0 = 48 ∧ t.getD 16 0 = 48 then 64 else 0)
def mesF (t : List Nat) (cu gv pv : Nat) : List Nat := payM (lN (amtN t 5 6)) (lN (amtN t 11 4)) (lN cu) gv pv
def sl8 (s : Nat → Nat) : List Nat := (List.range 8).map s
def givR (rk : Nat → Nat) (t : List Nat) (cu gv pv : Nat) : List Nat := [119, 20, 159, 39, 1, gv, 159, 54, 2, cu / 256, cu % 256, 159, 38, 8] ++ sl8 (sealF rk (mesF t cu gv pv))
/-- the card's answer -/
def sendF (t nm : List Nat) (cnt : Nat → Nat) (rc : Nat → List Nat) (rk : Nat → Nat) (co cu tr an sg am pv : Nat) : R8 :=
  if faultN t sg cu ≠ 36864 then (faultN t sg cu, [], cu, tr, an, sg, am, pv)
  else if cmN (insN t) = 1 then (if preOk t nm then (36864, selR nm, cu, tr, an, 1, am, pv) else (27266, [], cu, tr, an, sg, am, pv))
  else if cmN (insN t) = 2 then (if t.getD 5 0 = 131 ∧ t.getD 6 0 = 6 then (36864, rdyR cnt, cu + 1, tr, an, 2, amtN t 7 6, 0) else (27264, [], cu, tr, an, sg, am, pv))
  else if cmN (insN t) = 3 then (if t.getD 3 0 / 8 = 0 ∨ 4 < t.getD 3 0 / 8 ∨ cnt (t.getD 3 0 / 8 - 1) = 0 then (27266, [], cu, tr, an, sg, am, pv) else if t.getD 2 0 = 0 ∨ cnt (t.getD 3 0 / 8 - 1) < t.getD 2 0 then (27267, [], cu, tr, an, sg, am, pv) else (36864, [112, (rc (3 * (t.getD 3 0 / 8 - 1) + (t.getD 2 0 - 1))).length] ++ rc (3 * (t.getD 3 0 / 8 - 1) + (t.getD 2 0 - 1)), cu, tr, an, sg, am, pv))
  else if cmN (insN t) = 4 then (if tr = 0 then (27011, [], cu, tr, an, sg, am, pv) else if ¬ shpOk t then (27264, [], cu, tr, an, sg, am, pv) else if pinN t = co then (36864, [], cu, 3, an, sg, am, 1) else (25536 + (tr - 1), [], cu, tr - 1, an, sg, am, 0))
  else if cmN (insN t) = 5 then (36864, if t.getD 3 0 = 54 then [159, 54, 2, cu / 256, cu % 256] else [159, 23, 1, tr], cu, tr, an, sg, am, pv)
  else (36864, givR rk t cu (givN t am sg an pv) pv, cu, tr, (if givN t am sg an pv = 64 then (if sg = 3 then 0 else an + 1) else an), (if givN t am sg an pv = 128 then 3 else 4), am, pv)
theorem entR_len (cnt : Nat → Nat) : ∀ (n f : Nat), (entR cnt f n).length ≤ 4 * n
  | 0, _ => by simp [entR]
  | n + 1, f => by
    have := entR_len cnt n (f + 1)
    rw [entR, List.length_append]
    split <;> simp <;> omega
/-- small rows of bytes -/
theorem byteN_l {v i : Nat} (h : v < 2 ^ 63) : byteN (lN v) i = v / 2 ^ (8 * i) % 256 := by
  unfold byteN
  have e : (lN v).toBitVec.toNat = v := by
    show (BitVec.ofNat 64 v).toNat = v
    rw [BitVec.toNat_ofNat]
    exact Nat.mod_eq_of_lt (by omega)
  rw [e]
theorem beL_2 {v : Nat} (h : v < 65536) : beL (lN v) 2 = [v / 256, v % 256] := by
  simp only [beL]
  rw [byteN_l (by omega), byteN_l (by omega)]
  simp
  omega
theorem beL_1 {v : Nat} (h : v < 256) : beL (lN v) 1 = [v] := by
  simp only [beL]
  rw [byteN_l (by omega)]
  simp
  omega
