/-! THE SMALL MACHINE: values, cells and heaps by number; its judgement mGo is the kit's W for every state that fits. -/
abbrev mCell : Type := (FieldType × vp_A) ⊕ (Nat × List Value)
abbrev mHeap : Type := List mCell
abbrev mAl : Type := List (Nat × ClassId)
theorem mWS_ok {w : Cond} (h : w ∈ mWS) : (w.onTables && w.keeps) = true ∨ ∃ ty, w = .arrayClass ty := by
  have h2 : mOkW w = true := (List.mem_filter.mp h).2
  rcases Bool.or_eq_true_iff.mp h2 with h3 | h3
  · exact Or.inl h3
  · cases w <;> first | exact Or.inr ⟨_, rfl⟩ | cases h3
abbrev mWs (J : mM) : List Cond := Cond.code J.1 J.2.1 J.2.2.1 J.2.2.2 :: mWS
theorem mWs_good {J : mM} (h : Cond.code J.1 J.2.1 J.2.2.1 J.2.2.2 ∈ mWS) : GoodIn mWS (mWs J) := by
  intro w hw
  rcases List.mem_cons.mp hw with rfl | hw
  · exact ⟨h, mWS_ok h⟩
  · exact ⟨hw, mWS_ok hw⟩
def mF (ro : Nat → Nat) (al : mAl) (v : Value) : Option Value := match v with
  | .ref k => (al[k]?).map (fun q => Value.ref q.1)
  | .retAddr k => some (.ref (ro k))
  | .int x => some (.int x)
  | .long x => some (.long x)
  | .float x => some (.float x)
  | .double x => some (.double x)
  | .null => some .null
def mExt (al al' : mAl) : Prop := ∀ (k : Nat) (q : Nat × ClassId), al[k]? = some q → al'[k]? = some q
theorem mExt.rf {al : mAl} : mExt al al := fun _ _ h => h
theorem mExt.tr {a b c : mAl} (h1 : mExt a b) (h2 : mExt b c) : mExt a c := fun k q h => h2 k q (h1 k q h)
theorem mExt.push {al : mAl} {x : Nat × ClassId} : mExt al (al ++ [x]) := fun k q h => by
  rw [List.getElem?_append_left ((List.getElem?_eq_some_iff.mp h).1)]; exact h
theorem mF_ext {ro : Nat → Nat} {al al' : mAl} {v w : Value} (hx : mExt al al') (h : mF ro al v = some w) : mF ro al' v = some w := by
  cases v with
  | ref k =>
    simp only [mF, Option.map_eq_some_iff] at h ⊢
    obtain ⟨q, h1, h2⟩ := h
    exact ⟨q, hx k q h1, h2⟩
  | _ => exact h
theorem mF_cat {ro : Nat → Nat} {al : mAl} {v w : Value} (h : mF ro al v = some w) : w.category = v.category := by
  cases v with
  | ref k =>
    simp only [mF, Option.map_eq_some_iff] at h
    obtain ⟨q, h1, h2⟩ := h
    subst h2
    rfl
  | _ => simp only [mF, Option.some.injEq] at h; subst h; rfl
def mL (ro : Nat → Nat) (al : mAl) : List Value → List Value → Prop
  | [], [] => True
  | v :: l, w :: l' => mF ro al v = some w ∧ mL ro al l l'
  | _, _ => False
theorem mL_ext {ro : Nat → Nat} {al al' : mAl} (hx : mExt al al') : ∀ {l l' : List Value}, mL ro al l l' → mL ro al' l l'
  | [], [], _ => trivial
  | _ :: _, _ :: _, h => ⟨mF_ext hx h.1, mL_ext hx h.2⟩
theorem mL_c {ro : Nat → Nat} {al : mAl} {v : Value} {l l' : List Value} (h : mL ro al (v :: l) l') : ∃ w r, l' = w :: r ∧ mF ro al v = some w ∧ mL ro al l r := by
  cases l' with
  | nil => exact h.elim
  | cons w r => exact ⟨w, r, rfl, h.1, h.2⟩
theorem mL_n {ro : Nat → Nat} {al : mAl} {l' : List Value} (h : mL ro al [] l') : l' = [] := by
  cases l' with
  | nil => rfl
  | cons w r => exact h.elim
theorem mL_i {ro : Nat → Nat} {al : mAl} {x : Int32} {l l' : List Value} (h : mL ro al (.int x :: l) l') : ∃ r, l' = .int x :: r ∧ mL ro al l r := by
  obtain ⟨w, r, rfl, h1, h2⟩ := mL_c h
  cases h1
  exact ⟨r, rfl, h2⟩
theorem mL_l {ro : Nat → Nat} {al : mAl} {x : Int64} {l l' : List Value} (h : mL ro al (.long x :: l) l') : ∃ r, l' = .long x :: r ∧ mL ro al l r := by
  obtain ⟨w, r, rfl, h1, h2⟩ := mL_c h
  cases h1
  exact ⟨r, rfl, h2⟩
theorem mL_r {ro : Nat → Nat} {al : mAl} {k : Nat} {l l' : List Value} (h : mL ro al (.ref k :: l) l') : ∃ a c r, l' = .ref a :: r ∧ al[k]? = some (a, c) ∧ mL ro al l r := by
  obtain ⟨w, r, rfl, h1, h2⟩ := mL_c h
  simp only [mF, Option.map_eq_some_iff] at h1
  obtain ⟨⟨a, c⟩, h3, h4⟩ := h1
  subst h4
  exact ⟨a, c, r, rfl, h3, h2⟩
theorem mL_o {ro : Nat → Nat} {al : mAl} {k : Nat} {l l' : List Value} (h : mL ro al (.retAddr k :: l) l') : ∃ r, l' = .ref (ro k) :: r ∧ mL ro al l r := by
  obtain ⟨w, r, rfl, h1, h2⟩ := mL_c h
  cases h1
  exact ⟨r, rfl, h2⟩
theorem mL_app {ro : Nat → Nat} {al : mAl} : ∀ {l1 l2 l' : List Value}, mL ro al (l1 ++ l2) l' → ∃ a b, l' = a ++ b ∧ mL ro al l1 a ∧ mL ro al l2 b
  | [], l2, l', h => ⟨[], l', rfl, trivial, h⟩
  | v :: l1, l2, l', h => by
    obtain ⟨w, r, rfl, h1, h2⟩ := mL_c (l := l1 ++ l2) h
    obtain ⟨a, b, rfl, h3, h4⟩ := mL_app h2
    exact ⟨w :: a, b, rfl, ⟨h1, h3⟩, h4⟩
theorem mL_join {ro : Nat → Nat} {al : mAl} : ∀ {l1 l2 a b : List Value}, mL ro al l1 a → mL ro al l2 b → mL ro al (l1 ++ l2) (a ++ b)
  | [], l2, a, b, h1, h2 => by rw [mL_n h1]; exact h2
  | v :: l1, l2, a, b, h1, h2 => by
    obtain ⟨w, r, rfl, h3, h4⟩ := mL_c h1
    exact ⟨h3, mL_join h4 h2⟩
theorem mL_rev {ro : Nat → Nat} {al : mAl} : ∀ {l a : List Value}, mL ro al l a → mL ro al l.reverse a.reverse
  | [], a, h => by rw [mL_n h]; exact trivial
  | v :: l, a, h => by
    obtain ⟨w, r, rfl, h1, h2⟩ := mL_c h
    rw [List.reverse_cons, List.reverse_cons]
    exact mL_join (mL_rev h2) ⟨h1, trivial⟩
theorem mL_len {ro : Nat → Nat} {al : mAl} : ∀ {l a : List Value}, mL ro al l a → a.length = l.length
  | [], a, h => by rw [mL_n h]
  | v :: l, a, h => by
    obtain ⟨w, r, rfl, h1, h2⟩ := mL_c h
    rw [List.length_cons, List.length_cons, mL_len h2]
theorem mL_catsum {ro : Nat → Nat} {al : mAl} : ∀ {l a : List Value}, mL ro al l a → (a.map fun v => v.category) = (l.map fun v => v.category)
  | [], a, h => by rw [mL_n h]
  | v :: l, a, h => by
    obtain ⟨w, r, rfl, h1, h2⟩ := mL_c h
    rw [List.map_cons, List.map_cons, mL_catsum h2, mF_cat h1]
theorem mL_get {ro : Nat → Nat} {al : mAl} : ∀ {l a : List Value} {k : Nat} {v : Value}, mL ro al l a → l[k]? = some v → ∃ w, a[k]? = some w ∧ mF ro al v = some w
  | [], a, k, v, h, hk => by simp at hk
  | u :: l, a, k, v, h, hk => by
    obtain ⟨w, r, rfl, h1, h2⟩ := mL_c h
    cases k with
    | zero => rw [List.getElem?_cons_zero] at hk; cases hk; exact ⟨w, rfl, h1⟩
    | succ k => rw [List.getElem?_cons_succ] at hk ⊢; exact mL_get h2 hk
theorem mL_set {ro : Nat → Nat} {al : mAl} : ∀ {l a : List Value} {k : Nat} {v w : Value}, mL ro al l a → mF ro al v = some w → mL ro al (l.set k v) (a.set k w)
  | [], a, k, v, w, h, hk => by rw [mL_n h]; exact trivial
  | u :: l, a, k, v, w, h, hk => by
    obtain ⟨w', r, rfl, h1, h2⟩ := mL_c h
    cases k with
    | zero => exact ⟨hk, h2⟩
    | succ k => exact ⟨h1, mL_set h2 hk⟩
-- locals
def mKill : Option Value → Option Value
  | none => none
  | some (.int x) => some (.int x)
  | some (.long _) => none
  | some (.float x) => some (.float x)
  | some (.double _) => none
  | some .null => some .null
  | some (.ref a) => some (.ref a)
  | some (.retAddr a) => some (.retAddr a)
def mSt1 : List (Option Value) → Nat → Value → List (Option Value)
  | [], _, _ => []
  | _ :: t, 0, v => some v :: t
  | a :: t, 1, v => mKill a :: mSt1 t 0 v
  | a :: t, i + 2, v => a :: mSt1 t (i + 1) v
def mSt2 : List (Option Value) → Nat → Value → List (Option Value)
  | [], _, _ => []
  | [_], 0, v => [some v]
  | _ :: _ :: t, 0, v => some v :: none :: t
  | a :: t, 1, v => mKill a :: mSt2 t 0 v
  | a :: t, i + 2, v => a :: mSt2 t (i + 1) v
def mLv (ro : Nat → Nat) (al : mAl) (nL : Nat) (ls : Array Slot) (lv : List (Option Value)) : Prop :=
  lv.length = nL ∧ ∃ lc : List (Nat × Value), lv_has ls nL lc ∧ ∀ (i : Nat) (v : Value), lv[i]? = some (some v) → ∃ w, mF ro al v = some w ∧ (i, w) ∈ lc
theorem mLv_at {ro : Nat → Nat} {al : mAl} {nL : Nat} {ls : Array Slot} {lv : List (Option Value)} {i : Nat} {v : Value} (h : mLv ro al nL ls lv) (hv : lv[i]? = some (some v)) : ∃ w, mF ro al v = some w ∧ ls[i]? = some (.val w) := by
  obtain ⟨-, lc, h1, h2⟩ := h
  obtain ⟨w, h3, h4⟩ := h2 i v hv
  exact ⟨w, h3, h1.2.2 (i, w) h4⟩
theorem mLv_ext {ro : Nat → Nat} {al al' : mAl} {nL : Nat} {ls : Array Slot} {lv : List (Option Value)} (hx : mExt al al') (h : mLv ro al nL ls lv) : mLv ro al' nL ls lv := by
  obtain ⟨h0, lc, h1, h2⟩ := h
  refine ⟨h0, lc, h1, fun i v hv => ?_⟩
  obtain ⟨w, h3, h4⟩ := h2 i v hv
  exact ⟨w, mF_ext hx h3, h4⟩
theorem mKill_some {a : Option Value} {u : Value} (h : mKill a = some u) : a = some u ∧ ¬ u.category = 2 := by
  cases a with
  | none => cases h
  | some v => cases v <;> simp only [mKill, Option.some.injEq] at h <;> first | (subst h; exact ⟨rfl, by simp [Value.category]⟩) | cases h
theorem mSt1_len : ∀ (lv : List (Option Value)) (i : Nat) (v : Value), (mSt1 lv i v).length = lv.length
  | [], _, _ => by simp [mSt1]
  | _ :: _, 0, _ => rfl
  | _ :: t, 1, v => by rw [mSt1, List.length_cons, List.length_cons, mSt1_len t 0 v]
  | _ :: t, i + 2, v => by rw [mSt1, List.length_cons, List.length_cons, mSt1_len t (i + 1) v]
theorem mSt2_len : ∀ (lv : List (Option Value)) (i : Nat) (v : Value), (mSt2 lv i v).length = lv.length
  | [], _, _ => by simp [mSt2]
  | [_], 0, _ => rfl
  | _ :: _ :: _, 0, _ => rfl
  | _ :: t, 1, v => by rw [mSt2, List.length_cons, List.length_cons, mSt2_len t 0 v]
  | _ :: t, i + 2, v => by rw [mSt2, List.length_cons, List.length_cons, mSt2_len t (i + 1) v]
theorem mSt1_at : ∀ (lv : List (Option Value)) (i : Nat) (v : Value) (j : Nat) (u : Value), (mSt1 lv i v)[j]? = some (some u) → (j = i ∧ u = v) ∨ (j ≠ i ∧ lv[j]? = some (some u) ∧ ¬ (j + 1 = i ∧ u.category = 2))
  | [], i, v, j, u, h => by simp [mSt1] at h
  | a :: t, 0, v, 0, u, h => by cases h; exact Or.inl ⟨rfl, rfl⟩
  | a :: t, 0, v, j + 1, u, h => Or.inr ⟨by omega, h, by omega⟩
  | a :: t, 1, v, 0, u, h => by
    obtain ⟨h1, h2⟩ := mKill_some (a := a) (u := u) (by simpa [mSt1] using h)
    exact Or.inr ⟨by omega, by rw [h1]; rfl, fun z => h2 z.2⟩
  | a :: t, 1, v, j + 1, u, h => by
    rcases mSt1_at t 0 v j u h with ⟨h1, h2⟩ | ⟨h1, h2, h3⟩
    · exact Or.inl ⟨by omega, h2⟩
    · exact Or.inr ⟨by omega, h2, fun z => by omega⟩
  | a :: t, i + 2, v, 0, u, h => Or.inr ⟨by omega, h, fun z => by omega⟩
  | a :: t, i + 2, v, j + 1, u, h => by
    rcases mSt1_at t (i + 1) v j u h with ⟨h1, h2⟩ | ⟨h1, h2, h3⟩
    · exact Or.inl ⟨by omega, h2⟩
    · exact Or.inr ⟨by omega, h2, fun z => h3 ⟨by omega, z.2⟩⟩
theorem mSt2_at : ∀ (lv : List (Option Value)) (i : Nat) (v : Value) (j : Nat) (u : Value), (mSt2 lv i v)[j]? = some (some u) → (j = i ∧ u = v) ∨ (j ≠ i ∧ j ≠ i + 1 ∧ lv[j]? = some (some u) ∧ ¬ (j + 1 = i ∧ u.category = 2))
  | [], i, v, j, u, h => by simp [mSt2] at h
  | [a], 0, v, 0, u, h => by cases h; exact Or.inl ⟨rfl, rfl⟩
  | [a], 0, v, j + 1, u, h => by simp [mSt2] at h
  | a :: b :: t, 0, v, 0, u, h => by cases h; exact Or.inl ⟨rfl, rfl⟩
  | a :: b :: t, 0, v, 1, u, h => by cases h
  | a :: b :: t, 0, v, j + 2, u, h => Or.inr ⟨by omega, by omega, h, by omega⟩
  | a :: t, 1, v, 0, u, h => by
    obtain ⟨h1, h2⟩ := mKill_some (a := a) (u := u) (by simpa [mSt2] using h)
    exact Or.inr ⟨by omega, by omega, by rw [h1]; rfl, fun z => h2 z.2⟩
  | a :: t, 1, v, j + 1, u, h => by
    have h' : (mSt2 t 0 v)[j]? = some (some u) := by simpa [mSt2] using h
    rcases mSt2_at t 0 v j u h' with ⟨h1, h2⟩ | ⟨h1, h2, h3, h4⟩
    · exact Or.inl ⟨by omega, h2⟩
    · exact Or.inr ⟨by omega, by omega, h3, fun z => by omega⟩
  | a :: t, i + 2, v, 0, u, h => Or.inr ⟨by omega, by omega, by simpa [mSt2] using h, fun z => by omega⟩
  | a :: t, i + 2, v, j + 1, u, h => by
    have h' : (mSt2 t (i + 1) v)[j]? = some (some u) := by simpa [mSt2] using h
    rcases mSt2_at t (i + 1) v j u h' with ⟨h1, h2⟩ | ⟨h1, h2, h3, h4⟩
    · exact Or.inl ⟨by omega, h2⟩
    · exact Or.inr ⟨by omega, by omega, h3, fun z => h4 ⟨by omega, z.2⟩⟩
theorem mLv_st1 {ro : Nat → Nat} {al : mAl} {nL : Nat} {ls : Array Slot} {lv : List (Option Value)} {i : Nat} {v w : Value} (h : mLv ro al nL ls lv) (hv : mF ro al v = some w) (hi : i < nL) :
    ∃ lc : List (Nat × Value), lv_has ls nL lc ∧ ∀ ls' : Array Slot, lv_has ls' nL ((i, w) :: lc.filter (fun q => !(q.1 == i) && !(q.1 + 1 == i && q.2.category == 2))) → mLv ro al nL ls' (mSt1 lv i v) := by
  obtain ⟨h0, lc, h1, h2⟩ := h
  refine ⟨lc, h1, fun ls' h3 => ⟨by rw [mSt1_len]; exact h0, _, h3, fun j u hu => ?_⟩⟩
  rcases mSt1_at lv i v j u hu with ⟨rfl, rfl⟩ | ⟨hj, h4, h5⟩
  · exact ⟨w, hv, List.mem_cons_self⟩
  · obtain ⟨w', h6, h7⟩ := h2 j u h4
    refine ⟨w', h6, List.mem_cons_of_mem _ (List.mem_filter.mpr ⟨h7, ?_⟩)⟩
    have hc := mF_cat h6
    simp only [Bool.and_eq_true, Bool.not_eq_true', beq_eq_false_iff_ne, ne_eq, Bool.and_eq_false_iff]
    refine ⟨hj, ?_⟩
    by_cases z : j + 1 = i
    · exact Or.inr (fun y => h5 ⟨z, by rw [← hc]; exact y⟩)
    · exact Or.inl z
theorem mLv_st2 {ro : Nat → Nat} {al : mAl} {nL : Nat} {ls : Array Slot} {lv : List (Option Value)} {i : Nat} {v w : Value} (h : mLv ro al nL ls lv) (hv : mF ro al v = some w) (hi : i + 1 < nL) :
    ∃ lc : List (Nat × Value), lv_has ls nL lc ∧ ∀ ls' : Array Slot, lv_has ls' nL ((i, w) :: lc.filter (fun q => !(q.1 == i) && (!(q.1 == i + 1) && !(q.1 + 1 == i && q.2.category == 2)))) → mLv ro al nL ls' (mSt2 lv i v) := by
  obtain ⟨h0, lc, h1, h2⟩ := h
  refine ⟨lc, h1, fun ls' h3 => ⟨by rw [mSt2_len]; exact h0, _, h3, fun j u hu => ?_⟩⟩
  rcases mSt2_at lv i v j u hu with ⟨rfl, rfl⟩ | ⟨hj, hj1, h4, h5⟩
  · exact ⟨w, hv, List.mem_cons_self⟩
  · obtain ⟨w', h6, h7⟩ := h2 j u h4
    refine ⟨w', h6, List.mem_cons_of_mem _ (List.mem_filter.mpr ⟨h7, ?_⟩)⟩
    have hc := mF_cat h6
    simp only [Bool.and_eq_true, Bool.not_eq_true', beq_eq_false_iff_ne, ne_eq, Bool.and_eq_false_iff]
    refine ⟨hj, hj1, ?_⟩
    by_cases z : j + 1 = i
    · exact Or.inr (fun y => h5 ⟨z, by rw [← hc]; exact y⟩)
    · exact Or.inl z
-- cells
def mE (U : State) (ro : Nat → Nat) (al : mAl) (c : ClassId) (e : mCell) (f : va_E) : Prop := match e with
  | .inl x => f = .inl (c, x.2) ∧ (∀ g, x.2.2 ≠ .inr (.inr (.inr (.inr g)))) ∧ ArrOfT U c x.1 ∧ va_RA U c x.1
  | .inr o => ∃ fs, f = .inr (o.1, fs) ∧ mL ro al o.2 fs
def mWd (U : State) (ro : Nat → Nat) (al : mAl) (h : mHeap) (ws : va_W) : Prop :=
  al.length = h.length ∧ ws.length = h.length ∧ ∀ (k : Nat) (e : mCell), h[k]? = some e → ∃ (a : Nat) (c : ClassId) (f : va_E), al[k]? = some (a, c) ∧ ws[k]? = some (a, f) ∧ mE U ro al c e f
theorem mE_ext {U : State} {ro : Nat → Nat} {al al' : mAl} {c : ClassId} {e : mCell} {f : va_E} (hx : mExt al al') (h : mE U ro al c e f) : mE U ro al' c e f := by
  cases e with
  | inl x => exact h
  | inr o =>
    obtain ⟨fs, h1, h2⟩ := h
    exact ⟨fs, h1, mL_ext hx h2⟩
theorem mE_moved {u U : State} (hvm : u.vm.Alike U.vm) {ro : Nat → Nat} {al : mAl} {c : ClassId} {e : mCell} {f : va_E} (h : mE u ro al c e f) : mE U ro al c e f := by
  cases e with
  | inl x => exact ⟨h.1, h.2.1, arrOfT_moved hvm h.2.2.1, h.2.2.2.moved hvm⟩
  | inr o => exact h
theorem mWd_moved {u U : State} (hvm : u.vm.Alike U.vm) {ro : Nat → Nat} {al : mAl} {h : mHeap} {ws : va_W} (w : mWd u ro al h ws) : mWd U ro al h ws := by
  refine ⟨w.1, w.2.1, fun k e he => ?_⟩
  obtain ⟨a, c, f, h1, h2, h3⟩ := w.2.2 k e he
  exact ⟨a, c, f, h1, h2, mE_moved hvm h3⟩
theorem mWd_set {U : State} {ro : Nat → Nat} {al : mAl} {h : mHeap} {ws : va_W} (w : mWd U ro al h ws) {k a : Nat} {c : ClassId} {e : mCell} {f : va_E} (hk : al[k]? = some (a, c)) (he : mE U ro al c e f) : mWd U ro al (h.set k e) (ws.set k (a, f)) := by
  refine ⟨by rw [List.length_set]; exact w.1, by rw [List.length_set, List.length_set]; exact w.2.1, fun j e' hj => ?_⟩
  have hl : k < al.length := (List.getElem?_eq_some_iff.mp hk).1
  by_cases hjk : j = k
  · subst hjk
    rw [List.getElem?_set_self (by rw [← w.1]; exact hl)] at hj
    cases hj
    exact ⟨a, c, f, hk, List.getElem?_set_self (by rw [w.2.1, ← w.1]; exact hl), he⟩
  · rw [List.getElem?_set_ne (Ne.symm hjk)] at hj
    obtain ⟨a', c', f', h1, h2, h3⟩ := w.2.2 j e' hj
    exact ⟨a', c', f', h1, by rw [List.getElem?_set_ne (Ne.symm hjk)]; exact h2, h3⟩
theorem mWd_push {U : State} {ro : Nat → Nat} {al : mAl} {h : mHeap} {ws : va_W} (w : mWd U ro al h ws) {a : Nat} {c : ClassId} {e : mCell} {f : va_E} (he : mE U ro (al ++ [(a, c)]) c e f) : mWd U ro (al ++ [(a, c)]) (h ++ [e]) (ws ++ [(a, f)]) := by
  refine ⟨by simp [w.1], by simp [w.2.1], fun j e' hj => ?_⟩
  by_cases hl : j < h.length
  · rw [List.getElem?_append_left hl] at hj
    obtain ⟨a', c', f', h1, h2, h3⟩ := w.2.2 j e' hj
    exact ⟨a', c', f', mExt.push j _ h1, by rw [List.getElem?_append_left (by rw [w.2.1]; exact hl)]; exact h2, mE_ext mExt.push h3⟩
  · rw [List.getElem?_append_right (by omega)] at hj
    have hz : j - h.length < 1 := (List.getElem?_eq_some_iff.mp hj).1
    have hj0 : j = h.length := by omega
    subst hj0
    rw [Nat.sub_self] at hj
    cases hj
    exact ⟨a, c, f, by rw [← w.1]; simp, by rw [← w.2.1]; simp, he⟩
-- arrays that nobody writes: number 0 the script, number k + 1 the static table k
def mRo (ro : Nat → Nat) (L : Nat) (xs : Nat → Int32) (A : Nat → Prop) (U : State) (H : Heap) : Prop :=
  va_T .int (ro 0) L (fun j => .int (xs j)) A U H ∧ ∀ (k : Nat) (q : String × String × Nat × (Nat → Int32)), mStat[k]? = some q → va_Z q.1 q.2.1 "[I" (.ref (ro (k + 1))) A U H ∧ va_T .int (ro (k + 1)) q.2.2.1 (fun j => .int (q.2.2.2 j)) A U H
def mRoA (L : Nat) (xs : Nat → Int32) : Nat → Option (Nat × (Nat → Int32))
  | 0 => some (L, xs)
  | k + 1 => (mStat[k]?).map (fun q => q.2.2)
theorem mRo_T {ro : Nat → Nat} {L : Nat} {xs : Nat → Int32} {A : Nat → Prop} {U : State} {H : Heap} (h : mRo ro L xs A U H) {k N : Nat} {f : Nat → Int32} (hk : mRoA L xs k = some (N, f)) : va_T .int (ro k) N (fun j => .int (f j)) A U H := by
  cases k with
  | zero => cases hk; exact h.1
  | succ k =>
    simp only [mRoA, Option.map_eq_some_iff] at hk
    obtain ⟨q, h1, h2⟩ := hk
    have := (h.2 k q h1).2
    rw [h2] at this
    exact this
theorem mRo_moved {ro : Nat → Nat} {L : Nat} {xs : Nat → Int32} {A : Nat → Prop} {u U : State} {H : Heap} (hvm : u.vm.Alike U.vm) (h : mRo ro L xs A u H) : mRo ro L xs A U H :=
  ⟨h.1.moved hvm, fun k q hk => ⟨(h.2 k q hk).1.moved hvm, (h.2 k q hk).2.moved hvm⟩⟩
theorem mRo_kept {ro : Nat → Nat} {L : Nat} {xs : Nat → Int32} {A : Nat → Prop} {U : State} {H H1 : Heap} (h : mRo ro L xs A U H) (hq : ∀ a : Nat, a < H.size → ¬ A a → H1[a]? = H[a]?) : mRo ro L xs A U H1 :=
  ⟨h.1.kept hq, fun k q hk => ⟨(h.2 k q hk).1.kept hq, (h.2 k q hk).2.kept hq⟩⟩
theorem mRo_narrow {ro : Nat → Nat} {L : Nat} {xs : Nat → Int32} {A B : Nat → Prop} {U : State} {H : Heap} (h : mRo ro L xs A U H) (hAB : ∀ q, B q → A q) : mRo ro L xs B U H :=
  ⟨h.1.narrow hAB, fun k q hk => ⟨(h.2 k q hk).1.narrow hAB, (h.2 k q hk).2.narrow hAB⟩⟩
-- the judgement
abbrev mRm (d : Nat × Nat) (mc ms : Nat) : Room := { frames := d.1, cells := mc, slots := ms, locals := d.2 }
def mCtx (J : mM) (L : Nat) (xs : Nat → Int32) (d : Nat × Nat) (MC MS : Nat) (p : Program) (R : Room) (s : State) (m : MethodId) (args : Array Value) (meth : Method) (c : Code) (D : va_G) (ro : Nat → Nat) (A : Nat → Prop) : Prop :=
  p.tables.exec = Jvm.exec ∧ c.code = J.2.1 ∧ meth.sig.returnType = J.2.2.2 ∧ c.maxLocals = J.2.2.1 ∧ s.vm.findClass J.1.cls = some m.cls ∧ (∀ w ∈ mWS, w.before args s = true) ∧ (J.1.name = "<init>" → meth.name = "<init>") ∧ (va_K D vwCl [] s ∧ mNs s) ∧ mRo ro L xs A s s.heap ∧ (∀ q, s.heap.size ≤ q → A q) ∧ d.1 ≤ R.frames ∧ d.2 ≤ R.locals ∧ MC ≤ R.cells ∧ MS ≤ R.slots
def mDyn (ro : Nat → Nat) (A : Nat → Prop) (s : State) (D : va_G) (al : mAl) (ws : va_W) (H : Heap) (locs : List Loc) (h : mHeap) : Prop :=
  va_P D vwCl ws H ∧ va_D A ws ∧ va_S A s.heap H locs ∧ mWd s ro al h ws
def mO (ro : Nat → Nat) (al : mAl) : Option Value → Option Value → Prop
  | none, none => True
  | some v, some w => mF ro al v = some w
  | _, _ => False
def mRetOk (J : mM) (pc : Nat) : Option Value → Prop
  | none => J.2.2.2 = none ∧ decode J.2.1 pc = .ok (.return_, 1)
  | some (.int v) => ∃ ty, J.2.2.2 = some ty ∧ narrow ty (.int v) = .int v ∧ decode J.2.1 pc = .ok (.ireturn, 1)
  | some (.long _) => J.2.2.2 = some .long ∧ decode J.2.1 pc = .ok (.lreturn, 1)
  | some (.ref _) => (∃ rt, J.2.2.2 = some rt ∧ ((∃ n, rt = .object n) ∨ ∃ t, rt = .array t)) ∧ decode J.2.1 pc = .ok (.areturn, 1)
  | _ => False
def mHd (J : mM) (MC MS : Nat) (Post : Option Value → mHeap → Prop) (p : Program) (l : Launch) (e : Env) (R : Room) (s : State) (m : MethodId) (args : Array Value) (below : List Frame) (meth : Method) (c : Code) (D : va_G) (ro : Nat → Nat) (A : Nat → Prop) (al0 : mAl) (Q : State → Prop) : Prop :=
  ∀ (pc : Nat) (ls : Array Slot) (H : Heap) (locs : List Loc) (al : mAl) (ws : va_W) (r rC : Option Value) (h : mHeap), mExt al0 al → mDyn ro A s D al ws H locs h → mO ro al r rC → mRetOk J pc r → Post r h → W p l e R s m args below meth c H locs MC MS Q (F0 m pc ls rC.toList)
def mGo (J : mM) (L : Nat) (xs : Nat → Int32) (d : Nat × Nat) (MC MS : Nat) (Post : Option Value → mHeap → Prop) (cn sn pc : Nat) (lv : List (Option Value)) (st : List Value) (h : mHeap) : Prop :=
  ∀ (p : Program) (l : Launch) (e : Env) (R : Room) (s : State) (m : MethodId) (args : Array Value) (below : List Frame) (meth : Method) (c : Code) (D : va_G) (ro : Nat → Nat) (A : Nat → Prop) (al0 : mAl) (Q : State → Prop), mCtx J L xs d MC MS p R s m args meth c D ro A → mHd J MC MS Post p l e R s m args below meth c D ro A al0 Q →
  ∀ (al : mAl) (ws : va_W) (H : Heap) (locs : List Loc) (ls : Array Slot) (sC : List Value), mExt al0 al → mDyn ro A s D al ws H locs h → mLv ro al J.2.2.1 ls lv → mL ro al st sC → W p l e R s m args below meth c H locs cn sn Q (F0 m pc ls sC)
/-- a method's contract in the small machine -/
def mMet (J : mM) (L : Nat) (xs : Nat → Int32) (d : Nat × Nat) (mc ms : Nat) (As : List Value) (h : mHeap) (Post : Option Value → mHeap → Prop) : Prop :=
  ∀ (l : Launch) (D : va_G) (ro : Nat → Nat) (al : mAl) (ws : va_W) (AC : List Value) (sz : Nat), mL ro al As AC →
  Met l J.1 (mWs J) (mRm d mc ms) (va_Pc AC (fun U => U.heap.size = sz ∧ va_P D vwCl ws U.heap ∧ va_D (fun _ => True) ws ∧ mWd U ro al h ws ∧ (va_K D vwCl [] U ∧ mNs U) ∧ mRo ro L xs (va_A ws sz) U U.heap))
    (fun _ st oc t => (∃ (r rC : Option Value) (h' : mHeap) (al' : mAl) (ws' : va_W), oc = .returned rC ∧ mO ro al' r rC ∧ mExt al al' ∧ Post r h' ∧ va_P D vwCl ws' t.heap ∧ va_D (va_A ws sz) ws' ∧ mWd t ro al' h' ws') ∧ va_F (va_A ws sz) st t) mc ms (va_A ws sz)
/-- locals at a method's entry -/
def mEn : List Value → List (Option Value)
  | [] => []
  | v :: vs => if v.category = 2 then some v :: none :: mEn vs else some v :: mEn vs
section MJ1
variable {J : mM} {L : Nat} {xs : Nat → Int32} {d : Nat × Nat} {MC MS : Nat} {Post : Option Value → mHeap → Prop} {cn sn pc : Nat} {lv : List (Option Value)} {st : List Value} {h : mHeap}
theorem mj_iconst {n : Int} (hd : decode J.2.1 pc = .ok (.iconst n, 1)) (v : Int32) (hn : Int32.ofInt n = v) (k : mGo J L xs d MC MS Post cn sn (pc + 1) lv (.int v :: st) h) : mGo J L xs d MC MS Post cn sn pc lv st h := by
  intro p l e R s m args below meth c D ro A al0 Q C hh al ws H locs ls sC hx hY hv hs
  exact lv_iconst C.1 C.2.1 hd hn (k p l e R s m args below meth c D ro A al0 Q C hh al ws H locs ls _ hx hY hv ⟨rfl, hs⟩)
theorem mj_bipush {n : Int} (hd : decode J.2.1 pc = .ok (.bipush n, 2)) (v : Int32) (hn : (Int8.ofInt n).toInt32 = v) (k : mGo J L xs d MC MS Post cn sn (pc + 2) lv (.int v :: st) h) : mGo J L xs d MC MS Post cn sn pc lv st h := by
  intro p l e R s m args below meth c D ro A al0 Q C hh al ws H locs ls sC hx hY hv hs
  exact lv_bipush C.1 C.2.1 hd hn (k p l e R s m args below meth c D ro A al0 Q C hh al ws H locs ls _ hx hY hv ⟨rfl, hs⟩)
theorem mj_sipush {n : Int} (hd : decode J.2.1 pc = .ok (.sipush n, 3)) (v : Int32) (hn : (Int16.ofInt n).toInt32 = v) (k : mGo J L xs d MC MS Post cn sn (pc + 3) lv (.int v :: st) h) : mGo J L xs d MC MS Post cn sn pc lv st h := by
  intro p l e R s m args below meth c D ro A al0 Q C hh al ws H locs ls sC hx hY hv hs
  exact lv_sipush C.1 C.2.1 hd hn (k p l e R s m args below meth c D ro A al0 Q C hh al ws H locs ls _ hx hY hv ⟨rfl, hs⟩)
theorem mj_lconst {n : Fin 2} (hd : decode J.2.1 pc = .ok (.lconst n, 1)) (v : Int64) (hn : Int64.ofNat (n : Nat) = v) (k : mGo J L xs d MC MS Post cn sn (pc + 1) lv (.long v :: st) h) : mGo J L xs d MC MS Post cn sn pc lv st h := by
  intro p l e R s m args below meth c D ro A al0 Q C hh al ws H locs ls sC hx hY hv hs
  exact lv_lconst C.1 C.2.1 hd hn (k p l e R s m args below meth c D ro A al0 Q C hh al ws H locs ls _ hx hY hv ⟨rfl, hs⟩)
theorem mj_ldc {i : Nat} (hd : decode J.2.1 pc = .ok (.ldc i, 2)) (v : Int32) (hw : Cond.constant J.1.cls i v ∈ mWS) (k : mGo J L xs d MC MS Post cn sn (pc + 2) lv (.int v :: st) h) : mGo J L xs d MC MS Post cn sn pc lv st h := by
  intro p l e R s m args below meth c D ro A al0 Q C hh al ws H locs ls sC hx hY hv hs
  exact lv_ldc C.1 C.2.1 C.2.2.2.2.1 (C.2.2.2.2.2.1 _ hw) hd (k p l e R s m args below meth c D ro A al0 Q C hh al ws H locs ls _ hx hY hv ⟨rfl, hs⟩)
theorem mj_ldc2 {i : Nat} (hd : decode J.2.1 pc = .ok (.ldc2_w i, 3)) (v : Int64) (hw : Cond.constantLong J.1.cls i v ∈ mWS) (k : mGo J L xs d MC MS Post cn sn (pc + 3) lv (.long v :: st) h) : mGo J L xs d MC MS Post cn sn pc lv st h := by
  intro p l e R s m args below meth c D ro A al0 Q C hh al ws H locs ls sC hx hY hv hs
  exact lv_ldc2 C.1 C.2.1 C.2.2.2.2.1 (C.2.2.2.2.2.1 _ hw) hd (k p l e R s m args below meth c D ro A al0 Q C hh al ws H locs ls _ hx hY hv ⟨rfl, hs⟩)
theorem mj_iload_n {i : Fin 4} {x : Int32} (hd : decode J.2.1 pc = .ok (.iload_n i, 1)) (hl : lv[(i : Nat)]? = some (some (.int x))) (k : mGo J L xs d MC MS Post cn sn (pc + 1) lv (.int x :: st) h) : mGo J L xs d MC MS Post cn sn pc lv st h := by
  intro p l e R s m args below meth c D ro A al0 Q C hh al ws H locs ls sC hx hY hv hs
  obtain ⟨w, h1, h2⟩ := mLv_at hv hl
  cases h1
  exact lv_iload_n C.1 C.2.1 hd rfl h2 (k p l e R s m args below meth c D ro A al0 Q C hh al ws H locs ls _ hx hY hv ⟨rfl, hs⟩)
theorem mj_iload {i : Nat} {x : Int32} (hd : decode J.2.1 pc = .ok (.iload i, 2)) (hl : lv[i]? = some (some (.int x))) (k : mGo J L xs d MC MS Post cn sn (pc + 2) lv (.int x :: st) h) : mGo J L xs d MC MS Post cn sn pc lv st h := by
  intro p l e R s m args below meth c D ro A al0 Q C hh al ws H locs ls sC hx hY hv hs
  obtain ⟨w, h1, h2⟩ := mLv_at hv hl
  cases h1
  exact lv_iload C.1 C.2.1 hd h2 (k p l e R s m args below meth c D ro A al0 Q C hh al ws H locs ls _ hx hY hv ⟨rfl, hs⟩)
theorem mj_lload_n {i : Fin 4} {x : Int64} (hd : decode J.2.1 pc = .ok (.lload_n i, 1)) (hl : lv[(i : Nat)]? = some (some (.long x))) (k : mGo J L xs d MC MS Post cn sn (pc + 1) lv (.long x :: st) h) : mGo J L xs d MC MS Post cn sn pc lv st h := by
  intro p l e R s m args below meth c D ro A al0 Q C hh al ws H locs ls sC hx hY hv hs
  obtain ⟨w, h1, h2⟩ := mLv_at hv hl
  cases h1
  exact lv_lload_n C.1 C.2.1 hd rfl h2 (k p l e R s m args below meth c D ro A al0 Q C hh al ws H locs ls _ hx hY hv ⟨rfl, hs⟩)
theorem mj_lload {i : Nat} {x : Int64} (hd : decode J.2.1 pc = .ok (.lload i, 2)) (hl : lv[i]? = some (some (.long x))) (k : mGo J L xs d MC MS Post cn sn (pc + 2) lv (.long x :: st) h) : mGo J L xs d MC MS Post cn sn pc lv st h := by
  intro p l e R s m args below meth c D ro A al0 Q C hh al ws H locs ls sC hx hY hv hs
  obtain ⟨w, h1, h2⟩ := mLv_at hv hl
  cases h1
  exact lv_lload C.1 C.2.1 hd h2 (k p l e R s m args below meth c D ro A al0 Q C hh al ws H locs ls _ hx hY hv ⟨rfl, hs⟩)
theorem mj_aload_n {i : Fin 4} {x : Nat} (hd : decode J.2.1 pc = .ok (.aload_n i, 1)) (hl : lv[(i : Nat)]? = some (some (.ref x))) (k : mGo J L xs d MC MS Post cn sn (pc + 1) lv (.ref x :: st) h) : mGo J L xs d MC MS Post cn sn pc lv st h := by
  intro p l e R s m args below meth c D ro A al0 Q C hh al ws H locs ls sC hx hY hv hs
  obtain ⟨w, h1, h2⟩ := mLv_at hv hl
  have h3 := h1
  simp only [mF, Option.map_eq_some_iff] at h3
  obtain ⟨q, -, rfl⟩ := h3
  exact lv_aload_n C.1 C.2.1 hd rfl h2 (k p l e R s m args below meth c D ro A al0 Q C hh al ws H locs ls _ hx hY hv ⟨h1, hs⟩)
theorem mj_oload_n {i : Fin 4} {x : Nat} (hd : decode J.2.1 pc = .ok (.aload_n i, 1)) (hl : lv[(i : Nat)]? = some (some (.retAddr x))) (k : mGo J L xs d MC MS Post cn sn (pc + 1) lv (.retAddr x :: st) h) : mGo J L xs d MC MS Post cn sn pc lv st h := by
  intro p l e R s m args below meth c D ro A al0 Q C hh al ws H locs ls sC hx hY hv hs
  obtain ⟨w, h1, h2⟩ := mLv_at hv hl
  cases h1
  exact lv_aload_n C.1 C.2.1 hd rfl h2 (k p l e R s m args below meth c D ro A al0 Q C hh al ws H locs ls _ hx hY hv ⟨rfl, hs⟩)
theorem mj_aload {i : Nat} {x : Nat} (hd : decode J.2.1 pc = .ok (.aload i, 2)) (hl : lv[i]? = some (some (.ref x))) (k : mGo J L xs d MC MS Post cn sn (pc + 2) lv (.ref x :: st) h) : mGo J L xs d MC MS Post cn sn pc lv st h := by
  intro p l e R s m args below meth c D ro A al0 Q C hh al ws H locs ls sC hx hY hv hs
  obtain ⟨w, h1, h2⟩ := mLv_at hv hl
  have h3 := h1
  simp only [mF, Option.map_eq_some_iff] at h3
  obtain ⟨q, -, rfl⟩ := h3
  exact lv_aload C.1 C.2.1 hd h2 (k p l e R s m args below meth c D ro A al0 Q C hh al ws H locs ls _ hx hY hv ⟨h1, hs⟩)
theorem mj_oload {i : Nat} {x : Nat} (hd : decode J.2.1 pc = .ok (.aload i, 2)) (hl : lv[i]? = some (some (.retAddr x))) (k : mGo J L xs d MC MS Post cn sn (pc + 2) lv (.retAddr x :: st) h) : mGo J L xs d MC MS Post cn sn pc lv st h := by
  intro p l e R s m args below meth c D ro A al0 Q C hh al ws H locs ls sC hx hY hv hs
  obtain ⟨w, h1, h2⟩ := mLv_at hv hl
  cases h1
  exact lv_aload C.1 C.2.1 hd h2 (k p l e R s m args below meth c D ro A al0 Q C hh al ws H locs ls _ hx hY hv ⟨rfl, hs⟩)
theorem mj_istore_n {i : Fin 4} {x : Int32} (hd : decode J.2.1 pc = .ok (.istore_n i, 1)) (hi : (i : Nat) < J.2.2.1) (k : mGo J L xs d MC MS Post cn sn (pc + 1) (mSt1 lv (i : Nat) (.int x)) st h) : mGo J L xs d MC MS Post cn sn pc lv (.int x :: st) h := by
  intro p l e R s m args below meth c D ro A al0 Q C hh al ws H locs ls sC hx hY hv hs
  obtain ⟨r, rfl, hs1s⟩ := mL_i hs
  obtain ⟨lc, h1, h2⟩ := mLv_st1 (i := (i : Nat)) (v := .int x) hv rfl hi
  exact lv_istore_n C.1 C.2.1 hd rfl h1 hi rfl (fun ls' h3 => (k p l e R s m args below meth c D ro A al0 Q C hh al ws H locs ls' _ hx hY (h2 ls' h3) hs1s))
theorem mj_lstore_n {i : Fin 4} {x : Int64} (hd : decode J.2.1 pc = .ok (.lstore_n i, 1)) (hi : (i : Nat) + 1 < J.2.2.1) (k : mGo J L xs d MC MS Post cn sn (pc + 1) (mSt2 lv (i : Nat) (.long x)) st h) : mGo J L xs d MC MS Post cn sn pc lv (.long x :: st) h := by
  intro p l e R s m args below meth c D ro A al0 Q C hh al ws H locs ls sC hx hY hv hs
  obtain ⟨r, rfl, hs1s⟩ := mL_l hs
  obtain ⟨lc, h1, h2⟩ := mLv_st2 (i := (i : Nat)) (v := .long x) hv rfl hi
  exact lv_lstore_n C.1 C.2.1 hd rfl h1 hi rfl (fun ls' h3 => (k p l e R s m args below meth c D ro A al0 Q C hh al ws H locs ls' _ hx hY (h2 ls' h3) hs1s))
theorem mj_astore_n {i : Fin 4} {x : Nat} (hd : decode J.2.1 pc = .ok (.astore_n i, 1)) (hi : (i : Nat) < J.2.2.1) (k : mGo J L xs d MC MS Post cn sn (pc + 1) (mSt1 lv (i : Nat) (.ref x)) st h) : mGo J L xs d MC MS Post cn sn pc lv (.ref x :: st) h := by
  intro p l e R s m args below meth c D ro A al0 Q C hh al ws H locs ls sC hx hY hv hs
  obtain ⟨a, c1, r, rfl, ha, hs1s⟩ := mL_r hs
  obtain ⟨lc, h1, h2⟩ := mLv_st1 (i := (i : Nat)) (v := .ref x) (w := .ref a) hv (by simp [mF, ha]) hi
  exact lv_astore_n C.1 C.2.1 hd rfl h1 hi rfl (fun ls' h3 => (k p l e R s m args below meth c D ro A al0 Q C hh al ws H locs ls' _ hx hY (h2 ls' h3) hs1s))
theorem mj_ostore_n {i : Fin 4} {x : Nat} (hd : decode J.2.1 pc = .ok (.astore_n i, 1)) (hi : (i : Nat) < J.2.2.1) (k : mGo J L xs d MC MS Post cn sn (pc + 1) (mSt1 lv (i : Nat) (.retAddr x)) st h) : mGo J L xs d MC MS Post cn sn pc lv (.retAddr x :: st) h := by
  intro p l e R s m args below meth c D ro A al0 Q C hh al ws H locs ls sC hx hY hv hs
  obtain ⟨r, rfl, hs1s⟩ := mL_o hs
  obtain ⟨lc, h1, h2⟩ := mLv_st1 (i := (i : Nat)) (v := .retAddr x) (w := .ref (ro x)) hv rfl hi
  exact lv_astore_n C.1 C.2.1 hd rfl h1 hi rfl (fun ls' h3 => (k p l e R s m args below meth c D ro A al0 Q C hh al ws H locs ls' _ hx hY (h2 ls' h3) hs1s))
theorem mj_istore {i : Nat} {x : Int32} (hd : decode J.2.1 pc = .ok (.istore i, 2)) (hi : i < J.2.2.1) (k : mGo J L xs d MC MS Post cn sn (pc + 2) (mSt1 lv i (.int x)) st h) : mGo J L xs d MC MS Post cn sn pc lv (.int x :: st) h := by
  intro p l e R s m args below meth c D ro A al0 Q C hh al ws H locs ls sC hx hY hv hs
  obtain ⟨r, rfl, hs1s⟩ := mL_i hs
  obtain ⟨lc, h1, h2⟩ := mLv_st1 (i := i) (v := .int x) hv rfl hi
  exact lv_istore C.1 C.2.1 hd h1 hi rfl (fun ls' h3 => (k p l e R s m args below meth c D ro A al0 Q C hh al ws H locs ls' _ hx hY (h2 ls' h3) hs1s))
theorem mj_lstore {i : Nat} {x : Int64} (hd : decode J.2.1 pc = .ok (.lstore i, 2)) (hi : i + 1 < J.2.2.1) (k : mGo J L xs d MC MS Post cn sn (pc + 2) (mSt2 lv i (.long x)) st h) : mGo J L xs d MC MS Post cn sn pc lv (.long x :: st) h := by
  intro p l e R s m args below meth c D ro A al0 Q C hh al ws H locs ls sC hx hY hv hs
  obtain ⟨r, rfl, hs1s⟩ := mL_l hs
  obtain ⟨lc, h1, h2⟩ := mLv_st2 (i := i) (v := .long x) hv rfl hi
  exact lv_lstore C.1 C.2.1 hd h1 hi rfl (fun ls' h3 => (k p l e R s m args below meth c D ro A al0 Q C hh al ws H locs ls' _ hx hY (h2 ls' h3) hs1s))
theorem mj_astore {i : Nat} {x : Nat} (hd : decode J.2.1 pc = .ok (.astore i, 2)) (hi : i < J.2.2.1) (k : mGo J L xs d MC MS Post cn sn (pc + 2) (mSt1 lv i (.ref x)) st h) : mGo J L xs d MC MS Post cn sn pc lv (.ref x :: st) h := by
  intro p l e R s m args below meth c D ro A al0 Q C hh al ws H locs ls sC hx hY hv hs
  obtain ⟨a, c1, r, rfl, ha, hs1s⟩ := mL_r hs
  obtain ⟨lc, h1, h2⟩ := mLv_st1 (i := i) (v := .ref x) (w := .ref a) hv (by simp [mF, ha]) hi
  exact lv_astore C.1 C.2.1 hd h1 hi rfl (fun ls' h3 => (k p l e R s m args below meth c D ro A al0 Q C hh al ws H locs ls' _ hx hY (h2 ls' h3) hs1s))
theorem mj_ostore {i : Nat} {x : Nat} (hd : decode J.2.1 pc = .ok (.astore i, 2)) (hi : i < J.2.2.1) (k : mGo J L xs d MC MS Post cn sn (pc + 2) (mSt1 lv i (.retAddr x)) st h) : mGo J L xs d MC MS Post cn sn pc lv (.retAddr x :: st) h := by
  intro p l e R s m args below meth c D ro A al0 Q C hh al ws H locs ls sC hx hY hv hs
  obtain ⟨r, rfl, hs1s⟩ := mL_o hs
  obtain ⟨lc, h1, h2⟩ := mLv_st1 (i := i) (v := .retAddr x) (w := .ref (ro x)) hv rfl hi
  exact lv_astore C.1 C.2.1 hd h1 hi rfl (fun ls' h3 => (k p l e R s m args below meth c D ro A al0 Q C hh al ws H locs ls' _ hx hY (h2 ls' h3) hs1s))
theorem mj_iinc {i : Nat} {n : Int} {x : Int32} (hd : decode J.2.1 pc = .ok (.iinc i n, 3)) (hl : lv[i]? = some (some (.int x))) (hi : i < J.2.2.1) (v : Int32) (hn : x + Int32.ofInt n = v) (k : mGo J L xs d MC MS Post cn sn (pc + 3) (mSt1 lv i (.int v)) st h) : mGo J L xs d MC MS Post cn sn pc lv st h := by
  intro p l e R s m args below meth c D ro A al0 Q C hh al ws H locs ls sC hx hY hv hs
  obtain ⟨lc0, g1, g2⟩ := hv.2
  obtain ⟨w, h4, h5⟩ := g2 i _ hl
  cases h4
  obtain ⟨lc, h1, h2⟩ : ∃ lc : List (Nat × Value), (i, Value.int x) ∈ lc ∧ lv_has ls J.2.2.1 lc ∧ ∀ ls' : Array Slot, lv_has ls' J.2.2.1 ((i, .int v) :: lc.filter (fun q => !(q.1 == i) && !(q.1 + 1 == i && q.2.category == 2))) → mLv ro al J.2.2.1 ls' (mSt1 lv i (.int v)) := by
    obtain ⟨lc, h1, h2⟩ := mLv_st1 (i := i) (v := .int v) (w := .int v) ⟨hv.1, lc0, g1, g2⟩ rfl hi
    refine ⟨(i, .int x) :: lc, List.mem_cons_self, ⟨h1.1, h1.2.1, fun q hq => ?_⟩, fun ls' h3 => h2 ls' ⟨h3.1, h3.2.1, fun q hq => ?_⟩⟩
    · rcases List.mem_cons.mp hq with rfl | hq
      · exact g1.2.2 _ h5
      · exact h1.2.2 q hq
    · rcases List.mem_cons.mp hq with rfl | hq
      · exact h3.2.2 _ List.mem_cons_self
      · exact h3.2.2 q (List.mem_cons_of_mem _ (List.mem_filter.mpr ⟨List.mem_cons_of_mem _ (List.mem_filter.mp hq).1, (List.mem_filter.mp hq).2⟩))
  obtain ⟨kk, hkk⟩ := List.getElem?_of_mem h1
  exact lv_iinc C.1 C.2.1 hd h2.1 hkk hn hi rfl (fun ls' h3 => (k p l e R s m args below meth c D ro A al0 Q C hh al ws H locs ls' _ hx hY (h2.2 ls' h3) hs))
theorem mj_iadd {x y : Int32} (hd : decode J.2.1 pc = .ok (.iadd, 1)) (k : mGo J L xs d MC MS Post cn sn (pc + 1) lv (.int (x + y) :: st) h) : mGo J L xs d MC MS Post cn sn pc lv (.int y :: .int x :: st) h := by
  intro p l e R s m args below meth c D ro A al0 Q C hh al ws H locs ls sC hx hY hv hs
  obtain ⟨r1, rfl, hs1s⟩ := mL_i hs
  obtain ⟨r, rfl, hs2s⟩ := mL_i hs1s
  exact lv_iadd C.1 C.2.1 hd (k p l e R s m args below meth c D ro A al0 Q C hh al ws H locs ls _ hx hY hv ⟨rfl, hs2s⟩)
theorem mj_isub {x y : Int32} (hd : decode J.2.1 pc = .ok (.isub, 1)) (k : mGo J L xs d MC MS Post cn sn (pc + 1) lv (.int (x - y) :: st) h) : mGo J L xs d MC MS Post cn sn pc lv (.int y :: .int x :: st) h := by
  intro p l e R s m args below meth c D ro A al0 Q C hh al ws H locs ls sC hx hY hv hs
  obtain ⟨r1, rfl, hs1s⟩ := mL_i hs
  obtain ⟨r, rfl, hs2s⟩ := mL_i hs1s
  exact lv_isub C.1 C.2.1 hd (k p l e R s m args below meth c D ro A al0 Q C hh al ws H locs ls _ hx hY hv ⟨rfl, hs2s⟩)
theorem mj_imul {x y : Int32} (hd : decode J.2.1 pc = .ok (.imul, 1)) (k : mGo J L xs d MC MS Post cn sn (pc + 1) lv (.int (x * y) :: st) h) : mGo J L xs d MC MS Post cn sn pc lv (.int y :: .int x :: st) h := by
  intro p l e R s m args below meth c D ro A al0 Q C hh al ws H locs ls sC hx hY hv hs
  obtain ⟨r1, rfl, hs1s⟩ := mL_i hs
  obtain ⟨r, rfl, hs2s⟩ := mL_i hs1s
  exact lv_imul C.1 C.2.1 hd (k p l e R s m args below meth c D ro A al0 Q C hh al ws H locs ls _ hx hY hv ⟨rfl, hs2s⟩)
theorem mj_iand {x y : Int32} (hd : decode J.2.1 pc = .ok (.iand, 1)) (k : mGo J L xs d MC MS Post cn sn (pc + 1) lv (.int (x &&& y) :: st) h) : mGo J L xs d MC MS Post cn sn pc lv (.int y :: .int x :: st) h := by
  intro p l e R s m args below meth c D ro A al0 Q C hh al ws H locs ls sC hx hY hv hs
  obtain ⟨r1, rfl, hs1s⟩ := mL_i hs
  obtain ⟨r, rfl, hs2s⟩ := mL_i hs1s
  exact lv_iand C.1 C.2.1 hd (k p l e R s m args below meth c D ro A al0 Q C hh al ws H locs ls _ hx hY hv ⟨rfl, hs2s⟩)
theorem mj_ior {x y : Int32} (hd : decode J.2.1 pc = .ok (.ior, 1)) (k : mGo J L xs d MC MS Post cn sn (pc + 1) lv (.int (x ||| y) :: st) h) : mGo J L xs d MC MS Post cn sn pc lv (.int y :: .int x :: st) h := by
  intro p l e R s m args below meth c D ro A al0 Q C hh al ws H locs ls sC hx hY hv hs
  obtain ⟨r1, rfl, hs1s⟩ := mL_i hs
  obtain ⟨r, rfl, hs2s⟩ := mL_i hs1s
  exact lv_ior C.1 C.2.1 hd (k p l e R s m args below meth c D ro A al0 Q C hh al ws H locs ls _ hx hY hv ⟨rfl, hs2s⟩)
theorem mj_ixor {x y : Int32} (hd : decode J.2.1 pc = .ok (.ixor, 1)) (k : mGo J L xs d MC MS Post cn sn (pc + 1) lv (.int (x ^^^ y) :: st) h) : mGo J L xs d MC MS Post cn sn pc lv (.int y :: .int x :: st) h := by
  intro p l e R s m args below meth c D ro A al0 Q C hh al ws H locs ls sC hx hY hv hs
  obtain ⟨r1, rfl, hs1s⟩ := mL_i hs
  obtain ⟨r, rfl, hs2s⟩ := mL_i hs1s
  exact lv_ixor C.1 C.2.1 hd (k p l e R s m args below meth c D ro A al0 Q C hh al ws H locs ls _ hx hY hv ⟨rfl, hs2s⟩)
theorem mj_ishl {x y : Int32} (hd : decode J.2.1 pc = .ok (.ishl, 1)) (k : mGo J L xs d MC MS Post cn sn (pc + 1) lv (.int (x <<< (y &&& 31)) :: st) h) : mGo J L xs d MC MS Post cn sn pc lv (.int y :: .int x :: st) h := by
  intro p l e R s m args below meth c D ro A al0 Q C hh al ws H locs ls sC hx hY hv hs
  obtain ⟨r1, rfl, hs1s⟩ := mL_i hs
  obtain ⟨r, rfl, hs2s⟩ := mL_i hs1s
  exact lv_ishl C.1 C.2.1 hd (k p l e R s m args below meth c D ro A al0 Q C hh al ws H locs ls _ hx hY hv ⟨rfl, hs2s⟩)
theorem mj_ishr {x y : Int32} (hd : decode J.2.1 pc = .ok (.ishr, 1)) (k : mGo J L xs d MC MS Post cn sn (pc + 1) lv (.int (x >>> (y &&& 31)) :: st) h) : mGo J L xs d MC MS Post cn sn pc lv (.int y :: .int x :: st) h := by
  intro p l e R s m args below meth c D ro A al0 Q C hh al ws H locs ls sC hx hY hv hs
  obtain ⟨r1, rfl, hs1s⟩ := mL_i hs
  obtain ⟨r, rfl, hs2s⟩ := mL_i hs1s
  exact lv_ishr C.1 C.2.1 hd (k p l e R s m args below meth c D ro A al0 Q C hh al ws H locs ls _ hx hY hv ⟨rfl, hs2s⟩)
theorem mj_iushr {x y : Int32} (hd : decode J.2.1 pc = .ok (.iushr, 1)) (k : mGo J L xs d MC MS Post cn sn (pc + 1) lv (.int ((x.toUInt32 >>> (y.toUInt32 &&& Int32.toUInt32 31)).toInt32) :: st) h) : mGo J L xs d MC MS Post cn sn pc lv (.int y :: .int x :: st) h := by
  intro p l e R s m args below meth c D ro A al0 Q C hh al ws H locs ls sC hx hY hv hs
  obtain ⟨r1, rfl, hs1s⟩ := mL_i hs
  obtain ⟨r, rfl, hs2s⟩ := mL_i hs1s
  exact lv_iushr C.1 C.2.1 hd rfl (k p l e R s m args below meth c D ro A al0 Q C hh al ws H locs ls _ hx hY hv ⟨rfl, hs2s⟩)
theorem mj_idiv {x y : Int32} (hd : decode J.2.1 pc = .ok (.idiv, 1)) (hy : ¬ y = 0) (k : mGo J L xs d MC MS Post cn sn (pc + 1) lv (.int (x / y) :: st) h) : mGo J L xs d MC MS Post cn sn pc lv (.int y :: .int x :: st) h := by
  intro p l e R s m args below meth c D ro A al0 Q C hh al ws H locs ls sC hx hY hv hs
  obtain ⟨r1, rfl, hs1s⟩ := mL_i hs
  obtain ⟨r, rfl, hs2s⟩ := mL_i hs1s
  exact lv_idiv C.1 C.2.1 hd hy (k p l e R s m args below meth c D ro A al0 Q C hh al ws H locs ls _ hx hY hv ⟨rfl, hs2s⟩)
theorem mj_irem {x y : Int32} (hd : decode J.2.1 pc = .ok (.irem, 1)) (hy : ¬ y = 0) (k : mGo J L xs d MC MS Post cn sn (pc + 1) lv (.int (x - x / y * y) :: st) h) : mGo J L xs d MC MS Post cn sn pc lv (.int y :: .int x :: st) h := by
  intro p l e R s m args below meth c D ro A al0 Q C hh al ws H locs ls sC hx hY hv hs
  obtain ⟨r1, rfl, hs1s⟩ := mL_i hs
  obtain ⟨r, rfl, hs2s⟩ := mL_i hs1s
  exact lv_irem C.1 C.2.1 hd hy (k p l e R s m args below meth c D ro A al0 Q C hh al ws H locs ls _ hx hY hv ⟨rfl, hs2s⟩)
theorem mj_ineg {x : Int32} (hd : decode J.2.1 pc = .ok (.ineg, 1)) (k : mGo J L xs d MC MS Post cn sn (pc + 1) lv (.int (-x) :: st) h) : mGo J L xs d MC MS Post cn sn pc lv (.int x :: st) h := by
  intro p l e R s m args below meth c D ro A al0 Q C hh al ws H locs ls sC hx hY hv hs
  obtain ⟨r, rfl, hs1s⟩ := mL_i hs
  exact lv_ineg C.1 C.2.1 hd (k p l e R s m args below meth c D ro A al0 Q C hh al ws H locs ls _ hx hY hv ⟨rfl, hs1s⟩)
theorem mj_ladd {x y : Int64} (hd : decode J.2.1 pc = .ok (.ladd, 1)) (k : mGo J L xs d MC MS Post cn sn (pc + 1) lv (.long (x + y) :: st) h) : mGo J L xs d MC MS Post cn sn pc lv (.long y :: .long x :: st) h := by
  intro p l e R s m args below meth c D ro A al0 Q C hh al ws H locs ls sC hx hY hv hs
  obtain ⟨r1, rfl, hs1s⟩ := mL_l hs
  obtain ⟨r, rfl, hs2s⟩ := mL_l hs1s
  exact lv_ladd C.1 C.2.1 hd (k p l e R s m args below meth c D ro A al0 Q C hh al ws H locs ls _ hx hY hv ⟨rfl, hs2s⟩)
theorem mj_lsub {x y : Int64} (hd : decode J.2.1 pc = .ok (.lsub, 1)) (k : mGo J L xs d MC MS Post cn sn (pc + 1) lv (.long (x - y) :: st) h) : mGo J L xs d MC MS Post cn sn pc lv (.long y :: .long x :: st) h := by
  intro p l e R s m args below meth c D ro A al0 Q C hh al ws H locs ls sC hx hY hv hs
  obtain ⟨r1, rfl, hs1s⟩ := mL_l hs
  obtain ⟨r, rfl, hs2s⟩ := mL_l hs1s
  exact lv_lsub C.1 C.2.1 hd (k p l e R s m args below meth c D ro A al0 Q C hh al ws H locs ls _ hx hY hv ⟨rfl, hs2s⟩)
theorem mj_lmul {x y : Int64} (hd : decode J.2.1 pc = .ok (.lmul, 1)) (k : mGo J L xs d MC MS Post cn sn (pc + 1) lv (.long (x * y) :: st) h) : mGo J L xs d MC MS Post cn sn pc lv (.long y :: .long x :: st) h := by
  intro p l e R s m args below meth c D ro A al0 Q C hh al ws H locs ls sC hx hY hv hs
  obtain ⟨r1, rfl, hs1s⟩ := mL_l hs
  obtain ⟨r, rfl, hs2s⟩ := mL_l hs1s
  exact lv_lmul C.1 C.2.1 hd (k p l e R s m args below meth c D ro A al0 Q C hh al ws H locs ls _ hx hY hv ⟨rfl, hs2s⟩)
theorem mj_land {x y : Int64} (hd : decode J.2.1 pc = .ok (.land, 1)) (k : mGo J L xs d MC MS Post cn sn (pc + 1) lv (.long (x &&& y) :: st) h) : mGo J L xs d MC MS Post cn sn pc lv (.long y :: .long x :: st) h := by
  intro p l e R s m args below meth c D ro A al0 Q C hh al ws H locs ls sC hx hY hv hs
  obtain ⟨r1, rfl, hs1s⟩ := mL_l hs
  obtain ⟨r, rfl, hs2s⟩ := mL_l hs1s
  exact lv_land C.1 C.2.1 hd (k p l e R s m args below meth c D ro A al0 Q C hh al ws H locs ls _ hx hY hv ⟨rfl, hs2s⟩)
theorem mj_lor {x y : Int64} (hd : decode J.2.1 pc = .ok (.lor, 1)) (k : mGo J L xs d MC MS Post cn sn (pc + 1) lv (.long (x ||| y) :: st) h) : mGo J L xs d MC MS Post cn sn pc lv (.long y :: .long x :: st) h := by
  intro p l e R s m args below meth c D ro A al0 Q C hh al ws H locs ls sC hx hY hv hs
  obtain ⟨r1, rfl, hs1s⟩ := mL_l hs
  obtain ⟨r, rfl, hs2s⟩ := mL_l hs1s
  exact lv_lor C.1 C.2.1 hd (k p l e R s m args below meth c D ro A al0 Q C hh al ws H locs ls _ hx hY hv ⟨rfl, hs2s⟩)
theorem mj_lxor {x y : Int64} (hd : decode J.2.1 pc = .ok (.lxor, 1)) (k : mGo J L xs d MC MS Post cn sn (pc + 1) lv (.long (x ^^^ y) :: st) h) : mGo J L xs d MC MS Post cn sn pc lv (.long y :: .long x :: st) h := by
  intro p l e R s m args below meth c D ro A al0 Q C hh al ws H locs ls sC hx hY hv hs
  obtain ⟨r1, rfl, hs1s⟩ := mL_l hs
  obtain ⟨r, rfl, hs2s⟩ := mL_l hs1s
  exact lv_lxor C.1 C.2.1 hd (k p l e R s m args below meth c D ro A al0 Q C hh al ws H locs ls _ hx hY hv ⟨rfl, hs2s⟩)
theorem mj_ldiv {x y : Int64} (hd : decode J.2.1 pc = .ok (.ldiv, 1)) (hy : ¬ y = 0) (k : mGo J L xs d MC MS Post cn sn (pc + 1) lv (.long (x / y) :: st) h) : mGo J L xs d MC MS Post cn sn pc lv (.long y :: .long x :: st) h := by
  intro p l e R s m args below meth c D ro A al0 Q C hh al ws H locs ls sC hx hY hv hs
  obtain ⟨r1, rfl, hs1s⟩ := mL_l hs
  obtain ⟨r, rfl, hs2s⟩ := mL_l hs1s
  exact lv_ldiv C.1 C.2.1 hd hy (k p l e R s m args below meth c D ro A al0 Q C hh al ws H locs ls _ hx hY hv ⟨rfl, hs2s⟩)
theorem mj_lrem {x y : Int64} (hd : decode J.2.1 pc = .ok (.lrem, 1)) (hy : ¬ y = 0) (k : mGo J L xs d MC MS Post cn sn (pc + 1) lv (.long (x - x / y * y) :: st) h) : mGo J L xs d MC MS Post cn sn pc lv (.long y :: .long x :: st) h := by
  intro p l e R s m args below meth c D ro A al0 Q C hh al ws H locs ls sC hx hY hv hs
  obtain ⟨r1, rfl, hs1s⟩ := mL_l hs
  obtain ⟨r, rfl, hs2s⟩ := mL_l hs1s
  exact lv_lrem C.1 C.2.1 hd hy (k p l e R s m args below meth c D ro A al0 Q C hh al ws H locs ls _ hx hY hv ⟨rfl, hs2s⟩)
theorem mj_lshl {x : Int64} {y : Int32} (hd : decode J.2.1 pc = .ok (.lshl, 1)) (k : mGo J L xs d MC MS Post cn sn (pc + 1) lv (.long (x <<< (y.toInt64 &&& 63)) :: st) h) : mGo J L xs d MC MS Post cn sn pc lv (.int y :: .long x :: st) h := by
  intro p l e R s m args below meth c D ro A al0 Q C hh al ws H locs ls sC hx hY hv hs
  obtain ⟨r1, rfl, hs1s⟩ := mL_i hs
  obtain ⟨r, rfl, hs2s⟩ := mL_l hs1s
  exact lv_lshl C.1 C.2.1 hd rfl (k p l e R s m args below meth c D ro A al0 Q C hh al ws H locs ls _ hx hY hv ⟨rfl, hs2s⟩)
theorem mj_lshr {x : Int64} {y : Int32} (hd : decode J.2.1 pc = .ok (.lshr, 1)) (k : mGo J L xs d MC MS Post cn sn (pc + 1) lv (.long (x >>> (y.toInt64 &&& 63)) :: st) h) : mGo J L xs d MC MS Post cn sn pc lv (.int y :: .long x :: st) h := by
  intro p l e R s m args below meth c D ro A al0 Q C hh al ws H locs ls sC hx hY hv hs
  obtain ⟨r1, rfl, hs1s⟩ := mL_i hs
  obtain ⟨r, rfl, hs2s⟩ := mL_l hs1s
  exact lv_lshr C.1 C.2.1 hd rfl (k p l e R s m args below meth c D ro A al0 Q C hh al ws H locs ls _ hx hY hv ⟨rfl, hs2s⟩)
theorem mj_lushr {x : Int64} {y : Int32} (hd : decode J.2.1 pc = .ok (.lushr, 1)) (k : mGo J L xs d MC MS Post cn sn (pc + 1) lv (.long ((x.toUInt64 >>> (y.toInt64.toUInt64 &&& Int64.toUInt64 63)).toInt64) :: st) h) : mGo J L xs d MC MS Post cn sn pc lv (.int y :: .long x :: st) h := by
  intro p l e R s m args below meth c D ro A al0 Q C hh al ws H locs ls sC hx hY hv hs
  obtain ⟨r1, rfl, hs1s⟩ := mL_i hs
  obtain ⟨r, rfl, hs2s⟩ := mL_l hs1s
  exact lv_lushr C.1 C.2.1 hd rfl (k p l e R s m args below meth c D ro A al0 Q C hh al ws H locs ls _ hx hY hv ⟨rfl, hs2s⟩)
theorem mj_lcmp {x y : Int64} (hd : decode J.2.1 pc = .ok (.lcmp, 1)) (k : mGo J L xs d MC MS Post cn sn (pc + 1) lv (.int (lg_cmp x y) :: st) h) : mGo J L xs d MC MS Post cn sn pc lv (.long y :: .long x :: st) h := by
  intro p l e R s m args below meth c D ro A al0 Q C hh al ws H locs ls sC hx hY hv hs
  obtain ⟨r1, rfl, hs1s⟩ := mL_l hs
  obtain ⟨r, rfl, hs2s⟩ := mL_l hs1s
  exact W.lcmp C.1 C.2.1 hd (k p l e R s m args below meth c D ro A al0 Q C hh al ws H locs ls _ hx hY hv ⟨rfl, hs2s⟩)
theorem mj_i2l {x : Int32} (hd : decode J.2.1 pc = .ok (.i2l, 1)) (k : mGo J L xs d MC MS Post cn sn (pc + 1) lv (.long (x.toInt64) :: st) h) : mGo J L xs d MC MS Post cn sn pc lv (.int x :: st) h := by
  intro p l e R s m args below meth c D ro A al0 Q C hh al ws H locs ls sC hx hY hv hs
  obtain ⟨r, rfl, hs1s⟩ := mL_i hs
  exact lv_i2l C.1 C.2.1 hd rfl (k p l e R s m args below meth c D ro A al0 Q C hh al ws H locs ls _ hx hY hv ⟨rfl, hs1s⟩)
theorem mj_l2i {x : Int64} (hd : decode J.2.1 pc = .ok (.l2i, 1)) (k : mGo J L xs d MC MS Post cn sn (pc + 1) lv (.int (x.toInt32) :: st) h) : mGo J L xs d MC MS Post cn sn pc lv (.long x :: st) h := by
  intro p l e R s m args below meth c D ro A al0 Q C hh al ws H locs ls sC hx hY hv hs
  obtain ⟨r, rfl, hs1s⟩ := mL_l hs
  exact lv_l2i C.1 C.2.1 hd rfl (k p l e R s m args below meth c D ro A al0 Q C hh al ws H locs ls _ hx hY hv ⟨rfl, hs1s⟩)
theorem mj_i2b {x : Int32} (hd : decode J.2.1 pc = .ok (.i2b, 1)) (k : mGo J L xs d MC MS Post cn sn (pc + 1) lv (.int (x.toInt8.toInt32) :: st) h) : mGo J L xs d MC MS Post cn sn pc lv (.int x :: st) h := by
  intro p l e R s m args below meth c D ro A al0 Q C hh al ws H locs ls sC hx hY hv hs
  obtain ⟨r, rfl, hs1s⟩ := mL_i hs
  exact lv_i2b C.1 C.2.1 hd rfl (k p l e R s m args below meth c D ro A al0 Q C hh al ws H locs ls _ hx hY hv ⟨rfl, hs1s⟩)
theorem mj_i2s {x : Int32} (hd : decode J.2.1 pc = .ok (.i2s, 1)) (k : mGo J L xs d MC MS Post cn sn (pc + 1) lv (.int (x.toInt16.toInt32) :: st) h) : mGo J L xs d MC MS Post cn sn pc lv (.int x :: st) h := by
  intro p l e R s m args below meth c D ro A al0 Q C hh al ws H locs ls sC hx hY hv hs
  obtain ⟨r, rfl, hs1s⟩ := mL_i hs
  exact lv_i2s C.1 C.2.1 hd rfl (k p l e R s m args below meth c D ro A al0 Q C hh al ws H locs ls _ hx hY hv ⟨rfl, hs1s⟩)
theorem mj_i2c {x : Int32} (hd : decode J.2.1 pc = .ok (.i2c, 1)) (k : mGo J L xs d MC MS Post cn sn (pc + 1) lv (.int ((x.toUInt32 % 65536).toInt32) :: st) h) : mGo J L xs d MC MS Post cn sn pc lv (.int x :: st) h := by
  intro p l e R s m args below meth c D ro A al0 Q C hh al ws H locs ls sC hx hY hv hs
  obtain ⟨r, rfl, hs1s⟩ := mL_i hs
  exact lv_i2c C.1 C.2.1 hd rfl (k p l e R s m args below meth c D ro A al0 Q C hh al ws H locs ls _ hx hY hv ⟨rfl, hs1s⟩)
theorem mj_dup {v : Value} (hd : decode J.2.1 pc = .ok (.dup, 1)) (hc : v.category = 1) (k : mGo J L xs d MC MS Post cn sn (pc + 1) lv (v :: v :: st) h) : mGo J L xs d MC MS Post cn sn pc lv (v :: st) h := by
  intro p l e R s m args below meth c D ro A al0 Q C hh al ws H locs ls sC hx hY hv hs
  obtain ⟨w, r, rfl, h1, hs1s⟩ := mL_c hs
  exact lv_dup C.1 C.2.1 hd ((mF_cat h1).trans hc) (k p l e R s m args below meth c D ro A al0 Q C hh al ws H locs ls _ hx hY hv ⟨h1, h1, hs1s⟩)
theorem mj_pop {v : Value} (hd : decode J.2.1 pc = .ok (.pop, 1)) (hc : v.category = 1) (k : mGo J L xs d MC MS Post cn sn (pc + 1) lv st h) : mGo J L xs d MC MS Post cn sn pc lv (v :: st) h := by
  intro p l e R s m args below meth c D ro A al0 Q C hh al ws H locs ls sC hx hY hv hs
  obtain ⟨w, r, rfl, h1, hs1s⟩ := mL_c hs
  exact lv_pop C.1 C.2.1 hd ((mF_cat h1).trans hc) (k p l e R s m args below meth c D ro A al0 Q C hh al ws H locs ls _ hx hY hv hs1s)
theorem mj_dup_x1 {v u : Value} (hd : decode J.2.1 pc = .ok (.dup_x1, 1)) (hc : v.category = 1) (hc2 : u.category = 1) (k : mGo J L xs d MC MS Post cn sn (pc + 1) lv (v :: u :: v :: st) h) : mGo J L xs d MC MS Post cn sn pc lv (v :: u :: st) h := by
  intro p l e R s m args below meth c D ro A al0 Q C hh al ws H locs ls sC hx hY hv hs
  obtain ⟨w, r1, rfl, h1, hs1s⟩ := mL_c hs
  obtain ⟨w2, r, rfl, h2, hs2s⟩ := mL_c hs1s
  exact lv_dup_x1 C.1 C.2.1 hd ((mF_cat h1).trans hc) ((mF_cat h2).trans hc2) (k p l e R s m args below meth c D ro A al0 Q C hh al ws H locs ls _ hx hY hv ⟨h1, h2, h1, hs2s⟩)
theorem mj_dup2 {v u : Value} (hd : decode J.2.1 pc = .ok (.dup2, 1)) (hc : v.category = 1) (hc2 : u.category = 1) (k : mGo J L xs d MC MS Post cn sn (pc + 1) lv (v :: u :: v :: u :: st) h) : mGo J L xs d MC MS Post cn sn pc lv (v :: u :: st) h := by
  intro p l e R s m args below meth c D ro A al0 Q C hh al ws H locs ls sC hx hY hv hs
  obtain ⟨w, r1, rfl, h1, hs1s⟩ := mL_c hs
  obtain ⟨w2, r, rfl, h2, hs2s⟩ := mL_c hs1s
  exact lv_dup2_11 C.1 C.2.1 hd ((mF_cat h1).trans hc) ((mF_cat h2).trans hc2) (k p l e R s m args below meth c D ro A al0 Q C hh al ws H locs ls _ hx hY hv ⟨h1, h2, h1, h2, hs2s⟩)
theorem mj_dup2_2 {v : Value} (hd : decode J.2.1 pc = .ok (.dup2, 1)) (hc : v.category = 2) (k : mGo J L xs d MC MS Post cn sn (pc + 1) lv (v :: v :: st) h) : mGo J L xs d MC MS Post cn sn pc lv (v :: st) h := by
  intro p l e R s m args below meth c D ro A al0 Q C hh al ws H locs ls sC hx hY hv hs
  obtain ⟨w, r, rfl, h1, hs1s⟩ := mL_c hs
  exact lv_dup2_2 C.1 C.2.1 hd ((mF_cat h1).trans hc) (k p l e R s m args below meth c D ro A al0 Q C hh al ws H locs ls _ hx hY hv ⟨h1, h1, hs1s⟩)
theorem mj_dup_x2 {v u t : Value} (hd : decode J.2.1 pc = .ok (.dup_x2, 1)) (hc : v.category = 1) (hc2 : u.category = 1) (hc3 : t.category = 1) (k : mGo J L xs d MC MS Post cn sn (pc + 1) lv (v :: u :: t :: v :: st) h) : mGo J L xs d MC MS Post cn sn pc lv (v :: u :: t :: st) h := by
  intro p l e R s m args below meth c D ro A al0 Q C hh al ws H locs ls sC hx hY hv hs
  obtain ⟨w, r1, rfl, h1, hs1s⟩ := mL_c hs
  obtain ⟨w2, r2, rfl, h2, hs2s⟩ := mL_c hs1s
  obtain ⟨w3, r, rfl, h3, hs3s⟩ := mL_c hs2s
  exact lv_dup_x2 C.1 C.2.1 hd ((mF_cat h1).trans hc) ((mF_cat h2).trans hc2) ((mF_cat h3).trans hc3) (k p l e R s m args below meth c D ro A al0 Q C hh al ws H locs ls _ hx hY hv ⟨h1, h2, h3, h1, hs3s⟩)
theorem mj_ifeq {x : Int32} {off : Int} (hd : decode J.2.1 pc = .ok (.ifCond .eq off, 3)) (tgt : Nat) (ht : (pc : Int) + off = (tgt : Int)) (kt : x = 0 → mGo J L xs d MC MS Post cn sn tgt lv st h) (kf : ¬ x = 0 → mGo J L xs d MC MS Post cn sn (pc + 3) lv st h) : mGo J L xs d MC MS Post cn sn pc lv (.int x :: st) h := by
  intro p l e R s m args below meth c D ro A al0 Q C hh al ws H locs ls sC hx hY hv hs
  obtain ⟨r, rfl, hs1s⟩ := mL_i hs
  exact lv_if_eq C.1 C.2.1 hd ht (fun z => (kt z p l e R s m args below meth c D ro A al0 Q C hh al ws H locs ls _ hx hY hv hs1s)) (fun z => (kf z p l e R s m args below meth c D ro A al0 Q C hh al ws H locs ls _ hx hY hv hs1s))
theorem mj_ifne {x : Int32} {off : Int} (hd : decode J.2.1 pc = .ok (.ifCond .ne off, 3)) (tgt : Nat) (ht : (pc : Int) + off = (tgt : Int)) (kt : ¬ x = 0 → mGo J L xs d MC MS Post cn sn tgt lv st h) (kf : x = 0 → mGo J L xs d MC MS Post cn sn (pc + 3) lv st h) : mGo J L xs d MC MS Post cn sn pc lv (.int x :: st) h := by
  intro p l e R s m args below meth c D ro A al0 Q C hh al ws H locs ls sC hx hY hv hs
  obtain ⟨r, rfl, hs1s⟩ := mL_i hs
  exact lv_if_ne C.1 C.2.1 hd ht (fun z => (kt z p l e R s m args below meth c D ro A al0 Q C hh al ws H locs ls _ hx hY hv hs1s)) (fun z => (kf z p l e R s m args below meth c D ro A al0 Q C hh al ws H locs ls _ hx hY hv hs1s))
theorem mj_iflt {x : Int32} {off : Int} (hd : decode J.2.1 pc = .ok (.ifCond .lt off, 3)) (tgt : Nat) (ht : (pc : Int) + off = (tgt : Int)) (kt : x < 0 → mGo J L xs d MC MS Post cn sn tgt lv st h) (kf : ¬ x < 0 → mGo J L xs d MC MS Post cn sn (pc + 3) lv st h) : mGo J L xs d MC MS Post cn sn pc lv (.int x :: st) h := by
  intro p l e R s m args below meth c D ro A al0 Q C hh al ws H locs ls sC hx hY hv hs
  obtain ⟨r, rfl, hs1s⟩ := mL_i hs
  exact lv_if_lt C.1 C.2.1 hd ht (fun z => (kt z p l e R s m args below meth c D ro A al0 Q C hh al ws H locs ls _ hx hY hv hs1s)) (fun z => (kf z p l e R s m args below meth c D ro A al0 Q C hh al ws H locs ls _ hx hY hv hs1s))
theorem mj_ifge {x : Int32} {off : Int} (hd : decode J.2.1 pc = .ok (.ifCond .ge off, 3)) (tgt : Nat) (ht : (pc : Int) + off = (tgt : Int)) (kt : 0 ≤ x → mGo J L xs d MC MS Post cn sn tgt lv st h) (kf : ¬ 0 ≤ x → mGo J L xs d MC MS Post cn sn (pc + 3) lv st h) : mGo J L xs d MC MS Post cn sn pc lv (.int x :: st) h := by
  intro p l e R s m args below meth c D ro A al0 Q C hh al ws H locs ls sC hx hY hv hs
  obtain ⟨r, rfl, hs1s⟩ := mL_i hs
  exact lv_if_ge C.1 C.2.1 hd ht (fun z => (kt z p l e R s m args below meth c D ro A al0 Q C hh al ws H locs ls _ hx hY hv hs1s)) (fun z => (kf z p l e R s m args below meth c D ro A al0 Q C hh al ws H locs ls _ hx hY hv hs1s))
theorem mj_ifgt {x : Int32} {off : Int} (hd : decode J.2.1 pc = .ok (.ifCond .gt off, 3)) (tgt : Nat) (ht : (pc : Int) + off = (tgt : Int)) (kt : 0 < x → mGo J L xs d MC MS Post cn sn tgt lv st h) (kf : ¬ 0 < x → mGo J L xs d MC MS Post cn sn (pc + 3) lv st h) : mGo J L xs d MC MS Post cn sn pc lv (.int x :: st) h := by
  intro p l e R s m args below meth c D ro A al0 Q C hh al ws H locs ls sC hx hY hv hs
  obtain ⟨r, rfl, hs1s⟩ := mL_i hs
  exact lv_if_gt C.1 C.2.1 hd ht (fun z => (kt z p l e R s m args below meth c D ro A al0 Q C hh al ws H locs ls _ hx hY hv hs1s)) (fun z => (kf z p l e R s m args below meth c D ro A al0 Q C hh al ws H locs ls _ hx hY hv hs1s))
theorem mj_ifle {x : Int32} {off : Int} (hd : decode J.2.1 pc = .ok (.ifCond .le off, 3)) (tgt : Nat) (ht : (pc : Int) + off = (tgt : Int)) (kt : x ≤ 0 → mGo J L xs d MC MS Post cn sn tgt lv st h) (kf : ¬ x ≤ 0 → mGo J L xs d MC MS Post cn sn (pc + 3) lv st h) : mGo J L xs d MC MS Post cn sn pc lv (.int x :: st) h := by
  intro p l e R s m args below meth c D ro A al0 Q C hh al ws H locs ls sC hx hY hv hs
  obtain ⟨r, rfl, hs1s⟩ := mL_i hs
  exact lv_if_le C.1 C.2.1 hd ht (fun z => (kt z p l e R s m args below meth c D ro A al0 Q C hh al ws H locs ls _ hx hY hv hs1s)) (fun z => (kf z p l e R s m args below meth c D ro A al0 Q C hh al ws H locs ls _ hx hY hv hs1s))
theorem mj_icmpeq {x y : Int32} {off : Int} (hd : decode J.2.1 pc = .ok (.if_icmp .eq off, 3)) (tgt : Nat) (ht : (pc : Int) + off = (tgt : Int)) (kt : x = y → mGo J L xs d MC MS Post cn sn tgt lv st h) (kf : ¬ x = y → mGo J L xs d MC MS Post cn sn (pc + 3) lv st h) : mGo J L xs d MC MS Post cn sn pc lv (.int y :: .int x :: st) h := by
  intro p l e R s m args below meth c D ro A al0 Q C hh al ws H locs ls sC hx hY hv hs
  obtain ⟨r1, rfl, hs1s⟩ := mL_i hs
  obtain ⟨r, rfl, hs2s⟩ := mL_i hs1s
  exact lv_icmp_eq C.1 C.2.1 hd ht (fun z => (kt z p l e R s m args below meth c D ro A al0 Q C hh al ws H locs ls _ hx hY hv hs2s)) (fun z => (kf z p l e R s m args below meth c D ro A al0 Q C hh al ws H locs ls _ hx hY hv hs2s))
theorem mj_icmpne {x y : Int32} {off : Int} (hd : decode J.2.1 pc = .ok (.if_icmp .ne off, 3)) (tgt : Nat) (ht : (pc : Int) + off = (tgt : Int)) (kt : ¬ x = y → mGo J L xs d MC MS Post cn sn tgt lv st h) (kf : x = y → mGo J L xs d MC MS Post cn sn (pc + 3) lv st h) : mGo J L xs d MC MS Post cn sn pc lv (.int y :: .int x :: st) h := by
  intro p l e R s m args below meth c D ro A al0 Q C hh al ws H locs ls sC hx hY hv hs
  obtain ⟨r1, rfl, hs1s⟩ := mL_i hs
  obtain ⟨r, rfl, hs2s⟩ := mL_i hs1s
  exact lv_icmp_ne C.1 C.2.1 hd ht (fun z => (kt z p l e R s m args below meth c D ro A al0 Q C hh al ws H locs ls _ hx hY hv hs2s)) (fun z => (kf z p l e R s m args below meth c D ro A al0 Q C hh al ws H locs ls _ hx hY hv hs2s))
theorem mj_icmplt {x y : Int32} {off : Int} (hd : decode J.2.1 pc = .ok (.if_icmp .lt off, 3)) (tgt : Nat) (ht : (pc : Int) + off = (tgt : Int)) (kt : x < y → mGo J L xs d MC MS Post cn sn tgt lv st h) (kf : ¬ x < y → mGo J L xs d MC MS Post cn sn (pc + 3) lv st h) : mGo J L xs d MC MS Post cn sn pc lv (.int y :: .int x :: st) h := by
  intro p l e R s m args below meth c D ro A al0 Q C hh al ws H locs ls sC hx hY hv hs
  obtain ⟨r1, rfl, hs1s⟩ := mL_i hs
  obtain ⟨r, rfl, hs2s⟩ := mL_i hs1s
  exact lv_icmp_lt C.1 C.2.1 hd ht (fun z => (kt z p l e R s m args below meth c D ro A al0 Q C hh al ws H locs ls _ hx hY hv hs2s)) (fun z => (kf z p l e R s m args below meth c D ro A al0 Q C hh al ws H locs ls _ hx hY hv hs2s))
theorem mj_icmpge {x y : Int32} {off : Int} (hd : decode J.2.1 pc = .ok (.if_icmp .ge off, 3)) (tgt : Nat) (ht : (pc : Int) + off = (tgt : Int)) (kt : y ≤ x → mGo J L xs d MC MS Post cn sn tgt lv st h) (kf : ¬ y ≤ x → mGo J L xs d MC MS Post cn sn (pc + 3) lv st h) : mGo J L xs d MC MS Post cn sn pc lv (.int y :: .int x :: st) h := by
  intro p l e R s m args below meth c D ro A al0 Q C hh al ws H locs ls sC hx hY hv hs
  obtain ⟨r1, rfl, hs1s⟩ := mL_i hs
  obtain ⟨r, rfl, hs2s⟩ := mL_i hs1s
  exact lv_icmp_ge C.1 C.2.1 hd ht (fun z => (kt z p l e R s m args below meth c D ro A al0 Q C hh al ws H locs ls _ hx hY hv hs2s)) (fun z => (kf z p l e R s m args below meth c D ro A al0 Q C hh al ws H locs ls _ hx hY hv hs2s))
theorem mj_icmpgt {x y : Int32} {off : Int} (hd : decode J.2.1 pc = .ok (.if_icmp .gt off, 3)) (tgt : Nat) (ht : (pc : Int) + off = (tgt : Int)) (kt : y < x → mGo J L xs d MC MS Post cn sn tgt lv st h) (kf : ¬ y < x → mGo J L xs d MC MS Post cn sn (pc + 3) lv st h) : mGo J L xs d MC MS Post cn sn pc lv (.int y :: .int x :: st) h := by
  intro p l e R s m args below meth c D ro A al0 Q C hh al ws H locs ls sC hx hY hv hs
  obtain ⟨r1, rfl, hs1s⟩ := mL_i hs
  obtain ⟨r, rfl, hs2s⟩ := mL_i hs1s
  exact lv_icmp_gt C.1 C.2.1 hd ht (fun z => (kt z p l e R s m args below meth c D ro A al0 Q C hh al ws H locs ls _ hx hY hv hs2s)) (fun z => (kf z p l e R s m args below meth c D ro A al0 Q C hh al ws H locs ls _ hx hY hv hs2s))
theorem mj_icmple {x y : Int32} {off : Int} (hd : decode J.2.1 pc = .ok (.if_icmp .le off, 3)) (tgt : Nat) (ht : (pc : Int) + off = (tgt : Int)) (kt : x ≤ y → mGo J L xs d MC MS Post cn sn tgt lv st h) (kf : ¬ x ≤ y → mGo J L xs d MC MS Post cn sn (pc + 3) lv st h) : mGo J L xs d MC MS Post cn sn pc lv (.int y :: .int x :: st) h := by
  intro p l e R s m args below meth c D ro A al0 Q C hh al ws H locs ls sC hx hY hv hs
  obtain ⟨r1, rfl, hs1s⟩ := mL_i hs
  obtain ⟨r, rfl, hs2s⟩ := mL_i hs1s
  exact lv_icmp_le C.1 C.2.1 hd ht (fun z => (kt z p l e R s m args below meth c D ro A al0 Q C hh al ws H locs ls _ hx hY hv hs2s)) (fun z => (kf z p l e R s m args below meth c D ro A al0 Q C hh al ws H locs ls _ hx hY hv hs2s))
theorem mj_goto {off : Int} (hd : decode J.2.1 pc = .ok (.goto off, 3)) (tgt : Nat) (ht : (pc : Int) + off = (tgt : Int)) (k : mGo J L xs d MC MS Post cn sn tgt lv st h) : mGo J L xs d MC MS Post cn sn pc lv st h := by
  intro p l e R s m args below meth c D ro A al0 Q C hh al ws H locs ls sC hx hY hv hs
  exact lv_goto C.1 C.2.1 hd ht (k p l e R s m args below meth c D ro A al0 Q C hh al ws H locs ls _ hx hY hv hs)
theorem mj_lookup {dflt : Int} {ps : Array (Int × Int)} {len : Nat} {x : Int32} (hd : decode J.2.1 pc = .ok (.lookupswitch dflt ps, len)) (hp : (ps.toList.zip (ps.toList.drop 1)).all (fun (a, next) => a.1 < next.1) = true) {off : Int} (ho : Op.lookupswitch.offset ps.toList dflt x.toInt = off) (tgt : Nat) (ht : (pc : Int) + off = (tgt : Int)) (k : mGo J L xs d MC MS Post cn sn tgt lv st h) : mGo J L xs d MC MS Post cn sn pc lv (.int x :: st) h := by
  intro p l e R s m args below meth c D ro A al0 Q C hh al ws H locs ls sC hx hY hv hs
  obtain ⟨r, rfl, hs1s⟩ := mL_i hs
  exact lv_lookup C.1 C.2.1 hd hp ho ht (k p l e R s m args below meth c D ro A al0 Q C hh al ws H locs ls _ hx hY hv hs1s)
theorem mj_tableIn {dflt lo hi : Int} {offs : Array Int} {len : Nat} {x : Int32} (hd : decode J.2.1 pc = .ok (.tableswitch dflt lo hi offs, len)) (h1 : ¬ x.toInt < lo) (h2 : ¬ hi < x.toInt) {off : Int} (ho : offs[(x.toInt - lo).toNat]? = some off) (tgt : Nat) (ht : (pc : Int) + off = (tgt : Int)) (k : mGo J L xs d MC MS Post cn sn tgt lv st h) : mGo J L xs d MC MS Post cn sn pc lv (.int x :: st) h := by
  intro p l e R s m args below meth c D ro A al0 Q C hh al ws H locs ls sC hx hY hv hs
  obtain ⟨r, rfl, hs1s⟩ := mL_i hs
  exact lv_tableIn C.1 C.2.1 hd h1 h2 ho ht (k p l e R s m args below meth c D ro A al0 Q C hh al ws H locs ls _ hx hY hv hs1s)
theorem mj_tableOut {dflt lo hi : Int} {offs : Array Int} {len : Nat} {x : Int32} (hd : decode J.2.1 pc = .ok (.tableswitch dflt lo hi offs, len)) (h1 : x.toInt < lo ∨ hi < x.toInt) (tgt : Nat) (ht : (pc : Int) + dflt = (tgt : Int)) (k : mGo J L xs d MC MS Post cn sn tgt lv st h) : mGo J L xs d MC MS Post cn sn pc lv (.int x :: st) h := by
  intro p l e R s m args below meth c D ro A al0 Q C hh al ws H locs ls sC hx hY hv hs
  obtain ⟨r, rfl, hs1s⟩ := mL_i hs
  exact lv_tableOut C.1 C.2.1 hd h1 ht (k p l e R s m args below meth c D ro A al0 Q C hh al ws H locs ls _ hx hY hv hs1s)
theorem mj_iret {v : Int32} {ty : FieldType} (hd : decode J.2.1 pc = .ok (.ireturn, 1)) (hr : J.2.2.2 = some ty) (hn : narrow ty (.int v) = .int v) (hc : cn ≤ MC) (hs : sn ≤ MS) (k : Post (some (.int v)) h) : mGo J L xs d MC MS Post cn sn pc lv [.int v] h := by
  intro p l e R s m args below meth c D ro A al0 Q C hh al ws H locs ls sC hx hY hv hst
  obtain ⟨r, rfl, hstt⟩ := mL_i hst
  rw [mL_n hstt]
  exact W.widen hc hs (hh pc ls H locs al ws (some (.int v)) (some (.int v)) h hx hY rfl ⟨ty, hr, hn, hd⟩ k)
theorem mj_lret {v : Int64} (hd : decode J.2.1 pc = .ok (.lreturn, 1)) (hr : J.2.2.2 = some .long) (hc : cn ≤ MC) (hs : sn ≤ MS) (k : Post (some (.long v)) h) : mGo J L xs d MC MS Post cn sn pc lv [.long v] h := by
  intro p l e R s m args below meth c D ro A al0 Q C hh al ws H locs ls sC hx hY hv hst
  obtain ⟨r, rfl, hstt⟩ := mL_l hst
  rw [mL_n hstt]
  exact W.widen hc hs (hh pc ls H locs al ws (some (.long v)) (some (.long v)) h hx hY rfl ⟨hr, hd⟩ k)
theorem mj_aret {v : Nat} {rt : FieldType} (hd : decode J.2.1 pc = .ok (.areturn, 1)) (hr : J.2.2.2 = some rt) (hrt : (∃ n, rt = .object n) ∨ ∃ t, rt = .array t) (hc : cn ≤ MC) (hs : sn ≤ MS) (k : Post (some (.ref v)) h) : mGo J L xs d MC MS Post cn sn pc lv [.ref v] h := by
  intro p l e R s m args below meth c D ro A al0 Q C hh al ws H locs ls sC hx hY hv hst
  obtain ⟨w, r, rfl, h1, hstt⟩ := mL_c hst
  rw [mL_n hstt]
  exact W.widen hc hs (hh pc ls H locs al ws (some (.ref v)) (some w) h hx hY h1 ⟨⟨rt, hr, hrt⟩, hd⟩ k)
theorem mj_vret (hd : decode J.2.1 pc = .ok (.return_, 1)) (hr : J.2.2.2 = none) (hc : cn ≤ MC) (hs : sn ≤ MS) (k : Post none h) : mGo J L xs d MC MS Post cn sn pc lv [] h := by
  intro p l e R s m args below meth c D ro A al0 Q C hh al ws H locs ls sC hx hY hv hst
  rw [mL_n hst]
  exact W.widen hc hs (hh pc ls H locs al ws none none h hx hY trivial ⟨hr, hd⟩ k)
end MJ1
-- from the body to the contract
theorem mEn_len {ro : Nat → Nat} {al : mAl} : ∀ {As AC : List Value}, mL ro al As AC → (lg_sl AC).length = (mEn As).length
  | [], AC, h => by rw [mL_n h]; rfl
  | v :: l, AC, h => by
    obtain ⟨w, r, rfl, h1, h2⟩ := mL_c h
    have hc := mF_cat h1
    have ih := mEn_len h2
    simp only [lg_sl, List.flatMap_cons, mEn, hc]
    simp only [lg_sl] at ih
    split <;> simp [ih] <;> omega
theorem mEn_args {ro : Nat → Nat} {al : mAl} : ∀ {As AC : List Value}, mL ro al As AC → ∀ (o i : Nat) (v : Value), (mEn As)[i]? = some (some v) → ∃ w, mF ro al v = some w ∧ (o + i, w) ∈ lv_args o AC
  | [], AC, h, o, i, v, hi => by simp [mEn] at hi
  | u :: l, AC, h, o, i, v, hi => by
    obtain ⟨w, r, rfl, h1, h2⟩ := mL_c h
    have hc := mF_cat h1
    simp only [mEn] at hi
    simp only [lv_args, hc]
    split at hi
    · next hu =>
      rw [if_pos hu]
      match i, hi with
      | 0, hi => cases hi; exact ⟨w, h1, List.mem_cons_self⟩
      | 1, hi => cases hi
      | i + 2, hi =>
        obtain ⟨w', h3, h4⟩ := mEn_args h2 (o + 2) i v hi
        exact ⟨w', h3, List.mem_cons_of_mem _ (by rw [show o + (i + 2) = o + 2 + i by omega]; exact h4)⟩
    · next hu =>
      rw [if_neg hu]
      match i, hi with
      | 0, hi => cases hi; exact ⟨w, h1, List.mem_cons_self⟩
      | i + 1, hi =>
        obtain ⟨w', h3, h4⟩ := mEn_args h2 (o + 1) i v hi
        exact ⟨w', h3, List.mem_cons_of_mem _ (by rw [show o + (i + 1) = o + 1 + i by omega]; exact h4)⟩
theorem mLv_entry {ro : Nat → Nat} {al : mAl} {As AC : List Value} {n : Nat} (h : mL ro al As AC) (hn : (mEn As).length ≤ n) : mLv ro al n ((lg_sl AC ++ List.replicate (n - (lg_sl AC).length) Slot.unset).toArray) (mEn As ++ List.replicate (n - (mEn As).length) none) := by
  have hl := mEn_len h
  refine ⟨by simp; omega, lv_args 0 AC, lv_entry AC (by rw [hl]; exact hn), fun i v hi => ?_⟩
  by_cases hi2 : i < (mEn As).length
  · rw [List.getElem?_append_left hi2] at hi
    obtain ⟨w, h1, h2⟩ := mEn_args h 0 i v hi
    exact ⟨w, h1, by rw [Nat.zero_add] at h2; exact h2⟩
  · rw [List.getElem?_append_right (by omega)] at hi
    have := List.mem_of_getElem? hi
    rw [List.mem_replicate] at this
    exact absurd this.2 (by simp)
theorem mMet_of {J : mM} {L : Nat} {xs : Nat → Int32} {d : Nat × Nat} {mc ms : Nat} {As : List Value} {h : mHeap} {Post : Option Value → mHeap → Prop} (hy : plainName J.1.cls = true) (hn : (mEn As).length ≤ J.2.2.1) (k : mGo J L xs d mc ms Post 0 0 0 (mEn As ++ List.replicate (J.2.2.1 - (mEn As).length) none) [] h) : mMet J L xs d mc ms As h Post := by
  intro l D ro al ws AC sz hAC
  refine Met.ofW (cc := J.2.1) (maxL := J.2.2.1) (ret := J.2.2.2) hy rfl ?_
  intro p e s m args below meth c s₁ B hml hv
  obtain ⟨rfl, hsz, hP, hD0, hW, hK, hR⟩ := hv
  have hlocks := B.notSynchronized
  have hr := B.returns
  have hx := B.exec
  have hb := B.bytes
  subst hsz
  rw [lg_entry_eq]
  refine k p l e _ s m AC.toArray below meth c D ro (va_A ws s.heap.size) al _ ⟨hx, hb, hr, hml, findClass_of_methodNamed B.named, fun w hw => atoms_spec (ws := mWs J) B.pre w (List.mem_cons_of_mem _ hw), fun hi => (name_of_methodNamed B.named B.method).1.trans hi, hK, hR, fun q hq => Or.inr hq, Nat.le_refl _, Nat.le_refl _, Nat.le_refl _, Nat.le_refl _⟩ ?_ al ws s.heap [] _ [] mExt.rf ⟨hP, hD0.self, va_S.rf, hW⟩ (mLv_entry hAC hn) trivial
  intro pc ls H locs al' ws' r rC h' hx' hY hO hret hpost
  obtain ⟨hP', hD', hS', hW'⟩ := hY
  have key : ∀ t : State, t.heap = H → s.WarmedH t.vm → ((∃ (r rC2 : Option Value) (h' : mHeap) (al' : mAl) (ws' : va_W), (Outcome.returned rC) = .returned rC2 ∧ mO ro al' r rC2 ∧ mExt al al' ∧ Post r h' ∧ va_P D vwCl ws' t.heap ∧ va_D (va_A ws s.heap.size) ws' ∧ mWd t ro al' h' ws') ∧ va_F (va_A ws s.heap.size) s t) := fun t ht hWt =>
    ⟨⟨r, rC, h', al', ws', rfl, hO, hx', hpost, by rw [ht]; exact hP', hD', mWd_moved hWt.alike hW'⟩, hS'.F ht⟩
  match r, rC, hO, hret, key with
  | none, none, _, hret, key => exact W.vret hx hb (hr.trans hret.1) key hS'.2.2 hret.2
  | some (.int v), some w, hO, hret, key =>
    obtain ⟨ty, h1, h2, h3⟩ := hret
    cases hO
    exact W.zret hx hb (hr.trans h1) h2 key hS'.2.2 h3
  | some (.long v), some w, hO, hret, key =>
    cases hO
    exact W.lret hx hb (hr.trans hret.1) key hS'.2.2 hret.2
  | some (.ref v), some w, hO, hret, key =>
    obtain ⟨⟨rt, h1, h2⟩, h3⟩ := hret
    have hw : ∃ a, w = .ref a := by
      simp only [mO, mF, Option.map_eq_some_iff] at hO
      obtain ⟨q, -, rfl⟩ := hO
      exact ⟨_, rfl⟩
    exact W.aret hx hb (hr.trans h1) h2 (Or.inr hw) key hS'.2.2 h3
theorem mMet.mono {J : mM} {L : Nat} {xs : Nat → Int32} {d : Nat × Nat} {mc ms : Nat} {As : List Value} {h : mHeap} {Post Post' : Option Value → mHeap → Prop} (hm : ∀ r h', Post r h' → Post' r h') (k : mMet J L xs d mc ms As h Post) : mMet J L xs d mc ms As h Post' := by
  intro l D ro al ws AC sz hAC
  have k2 := k l D ro al ws AC sz hAC
  intro p e ha hc hk s m args below hf ht hP hx
  obtain ⟨n, o, h1, h2, h3, ⟨⟨r, rC, h', al', ws', h4, h5, h6, h7, h8⟩, h9⟩, h10⟩ := k2 p e ha hc hk s m args below hf ht hP hx
  exact ⟨n, o, h1, h2, h3, ⟨⟨r, rC, h', al', ws', h4, h5, h6, hm r h' h7, h8⟩, h9⟩, h10⟩
-- fields
section MJ2
variable {J : mM} {L : Nat} {xs : Nat → Int32} {d : Nat × Nat} {MC MS : Nat} {Post : Option Value → mHeap → Prop} {cn sn pc : Nat} {lv : List (Option Value)} {st : List Value} {h : mHeap}
theorem mj_get {idx ci k a : Nat} {fs : List Value} {v : Value} (hd : decode J.2.1 pc = .ok (.getfield idx, 3)) (hf : mFd J.1.cls idx ci k) (hh : h[a]? = some (.inr (ci, fs))) (hv : fs[k]? = some v) (kk : mGo J L xs d MC MS Post cn sn (pc + 3) lv (v :: st) h) : mGo J L xs d MC MS Post cn sn pc lv (.ref a :: st) h := by
  intro p l e R s m args below meth c D ro A al0 Q C hH al ws H locs ls sC hx hY hL hs
  obtain ⟨a', c', r, rfl, ha, hs1s⟩ := mL_r hs
  obtain ⟨⟨C1, T, N⟩, hc, hk, hown, hlink⟩ := hf
  obtain ⟨a2, c2, f, h1, h2, h3⟩ := hY.2.2.2.2.2 a _ hh
  rw [ha] at h1
  cases h1
  obtain ⟨fC, rfl, hfs⟩ := h3
  obtain ⟨w, hw1, hw2⟩ := mL_get hfs hv
  obtain ⟨tyf, t1, t2, t3⟩ := mCls_ok ci _ hc
  rcases hlink with hlink | ⟨host, hlink⟩
  · exact va_get C.1 C.2.1 C.2.2.2.2.2.1 t3 C.2.2.2.2.1 C.2.2.2.2.2.2.2.1.1 hY.1 a h2 hc k hk (C.2.2.2.2.2.1 _ hlink) (fun x hx => by rw [hown] at hx; exact hx) hw1 hd (kk p l e R s m args below meth c D ro A al0 Q C hH al ws H locs ls _ hx hY hL ⟨hw2, hs1s⟩)
  · exact va_getN C.1 C.2.1 C.2.2.2.2.2.1 t3 C.2.2.2.2.1 C.2.2.2.2.2.2.2.1.1 hY.1 a h2 hc k hk (va_Nw.use rfl (C.2.2.2.2.2.2.2.1.2 _ hlink)) (fun x hx => by rw [hown] at hx; exact hx) hw1 hd (kk p l e R s m args below meth c D ro A al0 Q C hH al ws H locs ls _ hx hY hL ⟨hw2, hs1s⟩)
theorem mFit {ty : FieldType} {ro : Nat → Nat} {al : mAl} {v w : Value} (h : mF ro al v = some w) (hn : narrow ty v = v) (hf : fits ty v = true) : narrow ty w = w ∧ fits ty w = true := by
  cases v with
  | ref k =>
    simp only [mF, Option.map_eq_some_iff] at h
    obtain ⟨q, -, rfl⟩ := h
    cases ty <;> first | exact ⟨rfl, rfl⟩ | (simp [fits] at hf)
  | retAddr k =>
    cases h
    cases ty <;> first | exact ⟨rfl, rfl⟩ | (simp [fits] at hf)
  | _ => cases h; exact ⟨hn, hf⟩
theorem mj_put {idx ci k a : Nat} {fs : List Value} {v : Value} {ty : FieldType} (hd : decode J.2.1 pc = .ok (.putfield idx, 3)) (hf : mFd J.1.cls idx ci k) (ht : mFt ci k ty false) (hh : h[a]? = some (.inr (ci, fs))) (hl : k < fs.length) (hn : narrow ty v = v) (hfit : fits ty v = true) (kk : mGo J L xs d MC MS Post cn sn (pc + 3) lv st (h.set a (.inr (ci, fs.set k v)))) : mGo J L xs d MC MS Post cn sn pc lv (v :: .ref a :: st) h := by
  intro p l e R s m args below meth c D ro A al0 Q C hH al ws H locs ls sC hx hY hL hs
  obtain ⟨w, r1, rfl, hv1, hs1s⟩ := mL_c hs
  obtain ⟨a', c', r, rfl, ha, hs2s⟩ := mL_r hs1s
  obtain ⟨⟨C1, T, N⟩, hc, hk, hown, hlink⟩ := hf
  obtain ⟨q', hc', hty, hfin⟩ := ht
  rw [hc] at hc'
  cases hc'
  obtain ⟨a2, c2, f, h1, h2, h3⟩ := hY.2.2.2.2.2 a _ hh
  rw [ha] at h1
  cases h1
  obtain ⟨fC, rfl, hfs⟩ := h3
  obtain ⟨tyf, t1, t2, t3⟩ := mCls_ok ci _ hc
  obtain ⟨hn2, hf2⟩ := mFit hv1 hn hfit
  have hlen : k < fC.length := by rw [mL_len hfs]; exact hl
  rcases hlink with hlink | ⟨host, hlink⟩
  · refine va_put C.1 C.2.1 C.2.2.2.2.2.1 t3 tyf t1 t2 C.2.2.2.2.1 C.2.2.2.2.2.2.2.1.1 hY.1 hY.2.1 hY.2.2.1 a h2 hc k hk (C.2.2.2.2.2.1 _ hlink) (fun x hx => by rw [hown] at hx; exact hx) hfin hty hn2 hf2 hlen hd (fun H1 locs1 hP hD hS => ?_)
    exact kk p l e R s m args below meth c D ro A al0 Q C hH al _ H1 locs1 ls _ hx ⟨hP, hD, hS, mWd_set hY.2.2.2 ha ⟨_, rfl, mL_set hfs hv1⟩⟩ hL hs2s
  · refine va_putN C.1 C.2.1 C.2.2.2.2.2.1 t3 tyf t1 t2 C.2.2.2.2.1 C.2.2.2.2.2.2.2.1.1 hY.1 hY.2.1 hY.2.2.1 a h2 hc k hk (va_Nw.use rfl (C.2.2.2.2.2.2.2.1.2 _ hlink)) (fun x hx => by rw [hown] at hx; exact hx) hfin hty hn2 hf2 hlen hd (fun H1 locs1 hP hD hS => ?_)
    exact kk p l e R s m args below meth c D ro A al0 Q C hH al _ H1 locs1 ls _ hx ⟨hP, hD, hS, mWd_set hY.2.2.2 ha ⟨_, rfl, mL_set hfs hv1⟩⟩ hL hs2s
theorem mj_putF {idx ci k a : Nat} {fs : List Value} {v : Value} {ty : FieldType} (hd : decode J.2.1 pc = .ok (.putfield idx, 3)) (hi : J.1.name = "<init>") (hf : ∃ q : vw_C, vwCl[ci]? = some q ∧ k < q.2.2 ∧ (q.2.1 k).1 = q.1 ∧ q.1 = J.1.cls ∧ Cond.fieldLink J.1.cls idx q.1 (q.2.1 k).2.1 (q.2.1 k).2.2.1 ∈ mWS) (ht : mFt ci k ty true) (hh : h[a]? = some (.inr (ci, fs))) (hl : k < fs.length) (hn : narrow ty v = v) (hfit : fits ty v = true) (kk : mGo J L xs d MC MS Post cn sn (pc + 3) lv st (h.set a (.inr (ci, fs.set k v)))) : mGo J L xs d MC MS Post cn sn pc lv (v :: .ref a :: st) h := by
  intro p l e R s m args below meth c D ro A al0 Q C hH al ws H locs ls sC hx hY hL hs
  obtain ⟨w, r1, rfl, hv1, hs1s⟩ := mL_c hs
  obtain ⟨a', c', r, rfl, ha, hs2s⟩ := mL_r hs1s
  obtain ⟨⟨C1, T, N⟩, hc, hk, hown, hcl, hlink⟩ := hf
  obtain ⟨q', hc', hty, hfin⟩ := ht
  rw [hc] at hc'
  cases hc'
  obtain ⟨a2, c2, f, h1, h2, h3⟩ := hY.2.2.2.2.2 a _ hh
  rw [ha] at h1
  cases h1
  obtain ⟨fC, rfl, hfs⟩ := h3
  obtain ⟨tyf, t1, t2, t3⟩ := mCls_ok ci _ hc
  obtain ⟨hn2, hf2⟩ := mFit hv1 hn hfit
  have hlen : k < fC.length := by rw [mL_len hfs]; exact hl
  refine va_putF C.1 C.2.1 C.2.2.2.2.2.1 t3 tyf t1 t2 C.2.2.2.2.1 C.2.2.2.2.2.2.2.1.1 hY.1 hY.2.1 hY.2.2.1 a h2 hc k hk (C.2.2.2.2.2.1 _ hlink) (fun x hx => by rw [hown] at hx; exact hx) hfin (C.2.2.2.2.2.2.1 hi) (hown.trans hcl) hty hn2 hf2 hlen hd (fun H1 locs1 hP hD hS => ?_)
  exact kk p l e R s m args below meth c D ro A al0 Q C hH al _ H1 locs1 ls _ hx ⟨hP, hD, hS, mWd_set hY.2.2.2 ha ⟨_, rfl, mL_set hfs hv1⟩⟩ hL hs2s
theorem mj_gets {idx k : Nat} {q : String × String × Nat × (Nat → Int32)} (hd : decode J.2.1 pc = .ok (.getstatic idx, 3)) (hq : mStat[k]? = some q) (hlink : Cond.fieldLink J.1.cls idx q.1 q.2.1 "[I" ∈ mWS) (kk : mGo J L xs d MC MS Post cn sn (pc + 3) lv (.retAddr (k + 1) :: st) h) : mGo J L xs d MC MS Post cn sn pc lv st h := by
  intro p l e R s m args below meth c D ro A al0 Q C hH al ws H locs ls sC hx hY hL hs
  exact va_gets C.1 C.2.1 (C.2.2.2.2.2.2.2.2.1.2 k q hq).1 hY.2.2.1 C.2.2.2.2.1 (C.2.2.2.2.2.1 _ hlink) (fun x hx => hx) hd (kk p l e R s m args below meth c D ro A al0 Q C hH al ws H locs ls _ hx hY hL ⟨rfl, hs⟩)
-- arrays
theorem mj_iald {a n : Nat} {f : Nat → Int32} {i : Int32} (hd : decode J.2.1 pc = .ok (.iaload, 1)) (hh : h[a]? = some (.inl (.int, n, .inl f))) (hi : vp_in i n) (kk : mGo J L xs d MC MS Post cn sn (pc + 1) lv (.int (f i.toNatClampNeg) :: st) h) : mGo J L xs d MC MS Post cn sn pc lv (.int i :: .ref a :: st) h := by
  intro p l e R s m args below meth c D ro A al0 Q C hH al ws H locs ls sC hx hY hL hs
  obtain ⟨r1, rfl, hs1s⟩ := mL_i hs
  obtain ⟨a', c', r, rfl, ha, hs2s⟩ := mL_r hs1s
  obtain ⟨a2, c2, f2, h1, h2, h3⟩ := hY.2.2.2.2.2 a _ hh
  rw [ha] at h1
  cases h1
  obtain ⟨rfl, -, h4, h5⟩ := h3
  have hK : va_K D vwCl [(c', .int)] s := ⟨C.2.2.2.2.2.2.2.1.1.1, fun k q hk => by
    match k, hk with
    | 0, hk => cases hk; exact ⟨h4, h5⟩⟩
  exact va_iald C.1 C.2.1 hK hY.1 a 0 h2 rfl hi hd (kk p l e R s m args below meth c D ro A al0 Q C hH al ws H locs ls _ hx hY hL ⟨rfl, hs2s⟩)
theorem mj_oald {a n : Nat} {f : Nat → Int32} {i : Int32} (hd : decode J.2.1 pc = .ok (.iaload, 1)) (hh : mRoA L xs a = some (n, f)) (hi : vp_in i n) (kk : mGo J L xs d MC MS Post cn sn (pc + 1) lv (.int (f i.toNatClampNeg) :: st) h) : mGo J L xs d MC MS Post cn sn pc lv (.int i :: .retAddr a :: st) h := by
  intro p l e R s m args below meth c D ro A al0 Q C hH al ws H locs ls sC hx hY hL hs
  obtain ⟨r1, rfl, hs1s⟩ := mL_i hs
  obtain ⟨r, rfl, hs2s⟩ := mL_o hs1s
  exact va_ti C.1 C.2.1 (mRo_T C.2.2.2.2.2.2.2.2.1 hh) hY.2.2.1 hi rfl hd (kk p l e R s m args below meth c D ro A al0 Q C hH al ws H locs ls _ hx hY hL ⟨rfl, hs2s⟩)
theorem mj_iast {a n : Nat} {f : Nat → Int32} {i x : Int32} (hd : decode J.2.1 pc = .ok (.iastore, 1)) (hh : h[a]? = some (.inl (.int, n, .inl f))) (hi : vp_in i n) (kk : mGo J L xs d MC MS Post cn sn (pc + 1) lv st (h.set a (.inl (.int, n, .inl (upd f i.toNatClampNeg x))))) : mGo J L xs d MC MS Post cn sn pc lv (.int x :: .int i :: .ref a :: st) h := by
  intro p l e R s m args below meth c D ro A al0 Q C hH al ws H locs ls sC hx hY hL hs
  obtain ⟨r1, rfl, hs1s⟩ := mL_i hs
  obtain ⟨r2, rfl, hs2s⟩ := mL_i hs1s
  obtain ⟨a', c', r, rfl, ha, hs3s⟩ := mL_r hs2s
  obtain ⟨a2, c2, f2, h1, h2, h3⟩ := hY.2.2.2.2.2 a _ hh
  rw [ha] at h1
  cases h1
  obtain ⟨rfl, -, h4, h5⟩ := h3
  have hK : va_K D vwCl [(c', .int)] s := ⟨C.2.2.2.2.2.2.2.1.1.1, fun k q hk => by
    match k, hk with
    | 0, hk => cases hk; exact ⟨h4, h5⟩⟩
  refine va_iast C.1 C.2.1 hK hY.1 hY.2.1 hY.2.2.1 a 0 h2 rfl hi hd (fun H1 locs1 hP hD hS => ?_)
  exact kk p l e R s m args below meth c D ro A al0 Q C hH al _ H1 locs1 ls _ hx ⟨hP, hD, hS, mWd_set hY.2.2.2 ha ⟨rfl, (fun g z => by cases z), h4, h5⟩⟩ hL hs3s
theorem mj_alen {a n : Nat} {ty : FieldType} {x : (Nat → Int32) ⊕ (Nat → Int64) ⊕ (Nat → UInt32) ⊕ (Nat → UInt64) ⊕ (Nat → Option Nat)} (hd : decode J.2.1 pc = .ok (.arraylength, 1)) (hh : h[a]? = some (.inl (ty, n, x))) (kk : mGo J L xs d MC MS Post cn sn (pc + 1) lv (.int (Int32.ofNat n) :: st) h) : mGo J L xs d MC MS Post cn sn pc lv (.ref a :: st) h := by
  intro p l e R s m args below meth c D ro A al0 Q C hH al ws H locs ls sC hx hY hL hs
  obtain ⟨a', c', r, rfl, ha, hs1s⟩ := mL_r hs
  obtain ⟨a2, c2, f2, h1, h2, h3⟩ := hY.2.2.2.2.2 a _ hh
  rw [ha] at h1
  cases h1
  obtain ⟨rfl, -, h4, h5⟩ := h3
  have hK : va_K D vwCl [(c', ty)] s := ⟨C.2.2.2.2.2.2.2.1.1.1, fun k q hk => by
    match k, hk with
    | 0, hk => cases hk; exact ⟨h4, h5⟩⟩
  exact va_alen C.1 C.2.1 hK hY.1 a 0 h2 rfl rfl hd (kk p l e R s m args below meth c D ro A al0 Q C hH al ws H locs ls _ hx hY hL ⟨rfl, hs1s⟩)
theorem mj_olen {a n : Nat} {f : Nat → Int32} (hd : decode J.2.1 pc = .ok (.arraylength, 1)) (hh : mRoA L xs a = some (n, f)) (kk : mGo J L xs d MC MS Post cn sn (pc + 1) lv (.int (Int32.ofNat n) :: st) h) : mGo J L xs d MC MS Post cn sn pc lv (.retAddr a :: st) h := by
  intro p l e R s m args below meth c D ro A al0 Q C hH al ws H locs ls sC hx hY hL hs
  obtain ⟨r, rfl, hs1s⟩ := mL_o hs
  exact va_tlen C.1 C.2.1 (mRo_T C.2.2.2.2.2.2.2.2.1 hh) hY.2.2.1 rfl hd (kk p l e R s m args below meth c D ro A al0 Q C hH al ws H locs ls _ hx hY hL ⟨rfl, hs1s⟩)
theorem mj_newi {n : Int32} (N : Nat) (hd : decode J.2.1 pc = .ok (.newarray .int, 2)) (hw : Cond.arrayClass .int ∈ mWS) (hn : ¬ n < 0) (hN : n.toNatClampNeg = N) (hb : N * 4 ≤ 536870912) (hc : cn + 1 ≤ MC) (hsl : sn + N ≤ MS) (kk : mGo J L xs d MC MS Post (cn + 1) (sn + N) (pc + 2) lv (.ref h.length :: st) (h ++ [.inl (.int, N, .inl (fun _ => 0))])) : mGo J L xs d MC MS Post cn sn pc lv (.int n :: st) h := by
  intro p l e R s m args below meth c D ro A al0 Q C hH al ws H locs ls sC hx hY hL hs
  obtain ⟨r, rfl, hs1s⟩ := mL_i hs
  refine va_newa (a0 := (N, .inl (fun _ => 0))) C.1 C.2.1 (atype := .int) (C.2.2.2.2.2.1 _ hw) rfl C.2.2.2.2.2.2.2.1.1 hY.1 hY.2.1 hY.2.2.1 C.2.2.2.2.2.2.2.2.2.1 (fun cA => rfl) hn hN hb (Nat.le_trans hc C.2.2.2.2.2.2.2.2.2.2.2.2.1) (Nat.le_trans hsl C.2.2.2.2.2.2.2.2.2.2.2.2.2) hd (fun q cA H1 hK hP hD hS => ?_)
  have h0 := hK.2 0 (cA, .int) rfl
  refine kk p l e R s m args below meth c D ro A al0 Q C hH (al ++ [(q, cA)]) _ H1 locs ls _ (hx.tr mExt.push) ⟨hP, hD, hS, mWd_push hY.2.2.2 ⟨rfl, (fun g z => by cases z), h0.1, h0.2⟩⟩ (mLv_ext mExt.push hL) ⟨?_, mL_ext mExt.push hs1s⟩
  have := hY.2.2.2.1
  simp [mF, ← this]
theorem mj_new {idx ci : Nat} {C1 : String} {T : u_T} {N : Nat} {fs : List Value} (hd : decode J.2.1 pc = .ok (.new idx, 3)) (hc : vwCl[ci]? = some (C1, T, N)) (h1 : Cond.classLink J.1.cls idx C1 ∈ mWS) (h2 : Cond.instantiable C1 N ∈ mWS) (h3 : Cond.initialized C1 ∈ mWS) (hfs : ∀ (ro : Nat → Nat) (al : mAl), mL ro al fs fs) (hdef : ∀ j, j < N → ∀ ty, parseFieldDescriptor (T j).2.2.1 = some ty → defaultValue ty = vp_V fs j) (hcn : cn + 1 ≤ MC) (hsl : sn + N ≤ MS) (kk : mGo J L xs d MC MS Post (cn + 1) (sn + N) (pc + 3) lv (.ref h.length :: st) (h ++ [.inr (ci, fs)])) : mGo J L xs d MC MS Post cn sn pc lv st h := by
  intro p l e R s m args below meth c D ro A al0 Q C hH al ws H locs ls sC hx hY hL hs
  obtain ⟨tyf, t1, t2, t3⟩ := mCls_ok ci _ hc
  refine va_new (c0 := c) C.1 C.2.1 C.2.2.2.2.2.1 t3 tyf t1 C.2.2.2.2.1 (C.2.2.2.2.2.1 _ h1) (C.2.2.2.2.2.1 _ h2) (C.2.2.2.2.2.1 _ h3) C.2.2.2.2.2.2.2.1.1 hY.1 hY.2.1 hY.2.2.1 C.2.2.2.2.2.2.2.2.2.1 hc (fun j hj => hdef j hj _ (t1 j hj)) (Nat.le_trans hcn C.2.2.2.2.2.2.2.2.2.2.2.2.1) (Nat.le_trans hsl C.2.2.2.2.2.2.2.2.2.2.2.2.2) hd (fun q H1 hP hD hS => ?_)
  refine kk p l e R s m args below meth c D ro A al0 Q C hH (al ++ [(q, 0)]) _ H1 locs ls _ (hx.tr mExt.push) ⟨hP, hD, hS, mWd_push hY.2.2.2 ⟨fs, rfl, hfs _ _⟩⟩ (mLv_ext mExt.push hL) ⟨?_, mL_ext mExt.push hs⟩
  have := hY.2.2.2.1
  simp [mF, ← this]
theorem mj_objInit {idx a : Nat} (hd : decode J.2.1 pc = .ok (.invokespecial idx, 3)) (h1 : Cond.methodLink J.1.cls idx Lib.objectInit ∈ mWS) (h2 : Cond.instanceMethod Lib.objectInit ∈ mWS) (h3 : Cond.code Lib.objectInit ⟨#[0xb1]⟩ 1 none ∈ mWS) (hdd : 1 ≤ d.1 ∧ (st.map fun v => v.category).sum + 12 ≤ d.2) (kk : mGo J L xs d MC MS Post cn sn (pc + 3) lv st h) : mGo J L xs d MC MS Post cn sn pc lv (.ref a :: st) h := by
  intro p l e R s m args below meth c D ro A al0 Q C hH al ws H locs ls sC hx hY hL hs
  obtain ⟨a', c', r, rfl, ha, hs1s⟩ := mL_r hs
  have hsz : ls.size = c.maxLocals := by rw [C.2.2.2.1]; obtain ⟨-, lc, q1, -⟩ := hL; exact q1.1
  refine W.objInit C.1 C.2.1 C.2.2.2.2.1 (C.2.2.2.2.2.1 _ h1) (C.2.2.2.2.2.1 _ h2) (C.2.2.2.2.2.1 _ h3) rfl hsz rfl hd (Nat.le_trans hdd.1 C.2.2.2.2.2.2.2.2.2.2.1) ?_ ?_
  · have q := mL_catsum hs1s
    have := Nat.le_trans hdd.2 C.2.2.2.2.2.2.2.2.2.2.2.1
    show 2 * 0 + _ + 12 ≤ _
    rw [q]; omega
  · exact W.eq (g2 := F0 m (pc + 3) ls r) rfl (kk p l e R s m args below meth c D ro A al0 Q C hH al ws H locs ls _ hx hY hL hs1s)
end MJ2
-- calls
theorem ma_call {p : Program} {l : Launch} {e : Env} {R : Room} {s : State} {m : MethodId} {args : Array Value} {below : List Frame} {meth : Method} {c : Code} {H : Heap} {locs : List Loc} {cn sn mc ms pc : Nat} {Q : State → Prop} {D : va_G} {ro : Nat → Nat} {A : Nat → Prop} {al : mAl} {ws : va_W} {ls : Array Slot} {st0 rest : List Value} {Post : Option Value → mHeap → Prop}
    (hr : va_Run p l e R s m args below meth c H locs cn sn mc ms (F0 m pc ls st0) rest (fun st oc t => (∃ (r rC : Option Value) (h' : mHeap) (al' : mAl) (ws' : va_W), oc = .returned rC ∧ mO ro al' r rC ∧ mExt al al' ∧ Post r h' ∧ va_P D vwCl ws' t.heap ∧ va_D (va_A ws H.size) ws' ∧ mWd t ro al' h' ws') ∧ va_F (va_A ws H.size) st t) (va_A ws H.size))
    (hD : va_D A ws) (hS : va_S A s.heap H locs) (hA : ∀ q, s.heap.size ≤ q → A q)
    (kk : ∀ (r rC : Option Value) (h' : mHeap) (al' : mAl) (ws' : va_W) (H1 : Heap) (locs1 : List Loc), mO ro al' r rC → mExt al al' → Post r h' → mDyn ro A s D al' ws' H1 locs1 h' → W p l e R s m args below meth c H1 locs1 (cn + mc) (sn + ms) Q (F0 m (pc + 3) ls (rC.toList ++ rest))) : W p l e R s m args below meth c H locs cn sn Q (F0 m pc ls st0) := by
  intro T hT X
  obtain ⟨v, st₀, t, T', L, h0, X', hL, e1, e2, ⟨⟨r, rC, h', al', ws', hv, hO, hx, hp, hP1, hD1, hw1⟩, hz, hk⟩, st⟩ := hr T hT X
  cases hv
  rw [h0] at hz hk
  have hf : ∀ q, va_A ws H.size q → A q := fun q hq => by
    rcases hq with ⟨k, e, hq⟩ | hq
    · exact hD.2 k _ hq
    · exact hA q (Nat.le_trans hS.1 hq)
  have hal : s.vm.Alike t.vm := by rw [← e2]; exact X'.warmed.alike
  obtain ⟨t2, a1, b1⟩ := kk r v h' al' ws' T'.heap (locs ++ L) hO hx hp ⟨by rw [e1]; exact hP1, hD1.weaken (fun _ _ _ q => hf _ q), ⟨Nat.le_trans hS.1 (by rw [e1]; exact hz), fun q h1 h2 => by rw [e1, hk q (Nat.lt_of_lt_of_le h1 hS.1) (fun z => h2 (hf q z))]; exact hS.2.1 q h1 h2, fun q hq => by
      rcases List.mem_append.mp hq with h | h
      · exact hS.2.2 q h
      · exact hf _ (hL q h)⟩, mWd_moved hal.symm hw1⟩ T' rfl X'
  exact ⟨t2, st t2 a1, b1⟩
/-- the room: frames, locals, cells, slots; what is left on the stack -/
def mRoom (d d' : Nat × Nat) (J' : mM) (st : List Value) (cn sn mc ms MC MS : Nat) : Prop := d'.1 + 1 ≤ d.1 ∧ 8 + (J'.2.2.1 + 11) + d'.2 ≤ d.2 ∧ (st.map fun v => v.category).sum ≤ 8 ∧ cn + mc ≤ MC ∧ sn + ms ≤ MS
section MJ3
variable {J : mM} {L : Nat} {xs : Nat → Int32} {d : Nat × Nat} {MC MS : Nat} {Post : Option Value → mHeap → Prop} {cn sn pc : Nat} {lv : List (Option Value)} {st : List Value} {h : mHeap}
theorem mPre {s : State} {args : Array Value} {D : va_G} {ro : Nat → Nat} {A : Nat → Prop} {al : mAl} {ws : va_W} {H : Heap} {locs : List Loc} {L : Nat} {xs : Nat → Int32} {h : mHeap} {AC : List Value} (hK : va_K D vwCl [] s ∧ mNs s) (hR : mRo ro L xs A s s.heap) (hA : ∀ q, s.heap.size ≤ q → A q) (hY : mDyn ro A s D al ws H locs h) :
    PreS s H (va_Pc AC (fun U => U.heap.size = H.size ∧ va_P D vwCl ws U.heap ∧ va_D (fun _ => True) ws ∧ mWd U ro al h ws ∧ (va_K D vwCl [] U ∧ mNs U) ∧ mRo ro L xs (va_A ws H.size) U U.heap)) AC := by
  obtain ⟨hP, hD, hS, hW⟩ := hY
  have hf : ∀ q, va_A ws H.size q → A q := fun q hq => by
    rcases hq with ⟨k, e, hq⟩ | hq
    · exact hD.2 k _ hq
    · exact hA q (Nat.le_trans hS.1 hq)
  refine ⟨fun a U g mk q => ?_, fun U hU hW1 => ⟨rfl, by rw [hU], by rw [hU]; exact hP, hD.weaken (fun _ _ _ _ => trivial), mWd_moved hW1.alike hW, ⟨va_K.moved hW1.alike hK.1, mNs_warm hW1 hK.2⟩, ?_⟩⟩
  · obtain ⟨q1, q2, q3, q4, q5, q6, q7⟩ := q
    exact ⟨q1, q2, q3, q4, mWd_moved (u := U) (U := U.calling g mk a) (Vm.Alike.refl U.vm) q5, ⟨va_K.moved (u := U) (U := U.calling g mk a) (Vm.Alike.refl U.vm) q6.1, mNs_same (s := U) (U := U.calling g mk a) rfl q6.2⟩, mRo_moved (u := U) (U := U.calling g mk a) (Vm.Alike.refl U.vm) q7⟩
  · rw [hU]
    exact mRo_moved hW1.alike (mRo_narrow (mRo_kept hR (fun a h1 h2 => hS.2.1 a h1 h2)) hf)
theorem mj_static {idx n : Nat} {J' : mM} {d' : Nat × Nat} {mc ms : Nat} {As st0 : List Value} (hd : decode J.2.1 pc = .ok (.invokestatic idx, 3)) (hw : mCw J' n) (hl : Cond.methodLink J.1.cls idx J'.1 ∈ mWS) (hst : Cond.static J'.1 ∈ mWS) (hn : As.length = n) (h0 : st0 = As.reverse ++ st) (hrm : mRoom d d' J' st cn sn mc ms MC MS)
    (kk : mMet J' L xs d' mc ms As h (fun r h' => mGo J L xs d MC MS Post (cn + mc) (sn + ms) (pc + 3) lv (r.toList ++ st) h')) : mGo J L xs d MC MS Post cn sn pc lv st0 h := by
  intro p l e R s m args below meth c D ro A al0 Q C hH al ws H locs ls sC hx hY hL hs
  subst h0
  obtain ⟨AR, rC, rfl, hs1, hs2⟩ := mL_app hs
  have hAC : mL ro al As AR.reverse := by have := mL_rev hs1; rw [List.reverse_reverse] at this; exact this
  have hsz : ls.size = J.2.2.1 := by obtain ⟨-, lc, q1, -⟩ := hL; exact q1.1
  obtain ⟨r1, r2, r3, r4, r5⟩ := hrm
  have hR := C.2.2.2.2.2.2.2.2.2.2
  have hpre := mPre (args := args) (AC := AR.reverse) C.2.2.2.2.2.2.2.1 C.2.2.2.2.2.2.2.2.1 C.2.2.2.2.2.2.2.2.2.1 hY
  refine ma_call (va_runS (As := AR.reverse) (rest := rC) (n := n) ⟨C.1, C.2.1, C.2.2.2.1, C.2.2.2.2.1, C.2.2.2.2.2.1⟩ (kk l D ro al ws AR.reverse H.size hAC) ⟨callB_of n C.2.2.2.2.2.1 (mWs_good hw.1) rfl rfl rfl (C.2.2.2.2.2.1 _ hw.2.1) (C.2.2.2.2.2.1 _ hl) hw.2.2 ⟨Nat.le_trans r1 hR.1, Nat.le_trans r2 hR.2.1⟩, C.2.2.2.2.2.1 _ hst⟩ hpre rfl (by rw [mL_len hAC]; exact hn) hsz (by rw [List.reverse_reverse]) (lv_room (by rw [mL_catsum hs2]; exact r3)) hd ⟨Nat.le_trans r4 hR.2.2.1, Nat.le_trans r5 hR.2.2.2⟩) hY.2.1 hY.2.2.1 C.2.2.2.2.2.2.2.2.2.1 (fun r rc h' al' ws' H1 locs1 hO hx1 hp hY1 => ?_)
  refine hp p l e R s m args below meth c D ro A al0 Q C hH al' ws' H1 locs1 ls _ (hx.tr hx1) hY1 (mLv_ext hx1 hL) ?_
  match r, rc, hO with
  | none, none, _ => exact mL_ext hx1 hs2
  | some v, some w, hO => exact ⟨hO, mL_ext hx1 hs2⟩
theorem mj_virtual {idx n ci a : Nat} {fs : List Value} {J' : mM} {d' : Nat × Nat} {mc ms : Nat} {As st0 : List Value} {T : u_T} {N : Nat} (hd : decode J.2.1 pc = .ok (.invokevirtual idx, 3)) (hw : mCw J' n) (hl : Cond.methodLink J.1.cls idx J'.1 ∈ mWS) (hin : Cond.instanceMethod J'.1 ∈ mWS) (hse : Cond.selects J'.1.cls J'.1 J'.1 ∈ mWS) (hc : vwCl[ci]? = some (J'.1.cls, T, N)) (hh : h[a]? = some (.inr (ci, fs))) (hn : As.length = n) (h0 : st0 = As.reverse ++ .ref a :: st) (hrm : mRoom d d' J' st cn sn mc ms MC MS)
    (kk : mMet J' L xs d' mc ms (.ref a :: As) h (fun r h' => mGo J L xs d MC MS Post (cn + mc) (sn + ms) (pc + 3) lv (r.toList ++ st) h')) : mGo J L xs d MC MS Post cn sn pc lv st0 h := by
  intro p l e R s m args below meth c D ro A al0 Q C hH al ws H locs ls sC hx hY hL hs
  subst h0
  obtain ⟨AR, rC0, rfl, hs1, hs2⟩ := mL_app hs
  obtain ⟨a', c', rC, rfl, ha, hs2⟩ := mL_r hs2
  have hAC : mL ro al As AR.reverse := by have := mL_rev hs1; rw [List.reverse_reverse] at this; exact this
  have hsz : ls.size = J.2.2.1 := by obtain ⟨-, lc, q1, -⟩ := hL; exact q1.1
  obtain ⟨r1, r2, r3, r4, r5⟩ := hrm
  have hR := C.2.2.2.2.2.2.2.2.2.2
  obtain ⟨a2, c2, f, h1, h2, h3⟩ := hY.2.2.2.2.2 a _ hh
  rw [ha] at h1
  cases h1
  obtain ⟨fC, rfl, hfs⟩ := h3
  have hpre := mPre (args := args) (AC := .ref a' :: AR.reverse) C.2.2.2.2.2.2.2.1 C.2.2.2.2.2.2.2.2.1 C.2.2.2.2.2.2.2.2.2.1 hY
  have hA2 : mL ro al (.ref a :: As) (.ref a' :: AR.reverse) := ⟨by simp [mF, ha], hAC⟩
  refine ma_call (va_runV (As := AR.reverse) (rest := rC) (n := n) ⟨C.1, C.2.1, C.2.2.2.1, C.2.2.2.2.1, C.2.2.2.2.2.1⟩ (kk l D ro al ws (.ref a' :: AR.reverse) H.size hA2) ⟨callB_of n C.2.2.2.2.2.1 (mWs_good hw.1) rfl rfl rfl (C.2.2.2.2.2.1 _ hw.2.1) (C.2.2.2.2.2.1 _ hl) hw.2.2 ⟨Nat.le_trans r1 hR.1, Nat.le_trans r2 hR.2.1⟩, C.2.2.2.2.2.1 _ hin, C.2.2.2.2.2.1 _ hse⟩ ⟨hpre.1, va_recv C.2.2.2.2.2.2.2.1.1 hY.1 hc h2, hpre.2⟩ rfl (by rw [mL_len hAC]; exact hn) hsz (by rw [List.reverse_reverse]) (lv_room (by rw [mL_catsum hs2]; exact r3)) hd ⟨Nat.le_trans r4 hR.2.2.1, Nat.le_trans r5 hR.2.2.2⟩) hY.2.1 hY.2.2.1 C.2.2.2.2.2.2.2.2.2.1 (fun r rc h' al' ws' H1 locs1 hO hx1 hp hY1 => ?_)
  refine hp p l e R s m args below meth c D ro A al0 Q C hH al' ws' H1 locs1 ls _ (hx.tr hx1) hY1 (mLv_ext hx1 hL) ?_
  match r, rc, hO with
  | none, none, _ => exact mL_ext hx1 hs2
  | some v, some w, hO => exact ⟨hO, mL_ext hx1 hs2⟩
theorem mj_init {idx n a : Nat} {J' : mM} {d' : Nat × Nat} {mc ms : Nat} {As st0 : List Value} (hd : decode J.2.1 pc = .ok (.invokespecial idx, 3)) (hi : J'.1.name = "<init>") (hr0 : J'.2.2.2 = none) (hw : mCw J' n) (hl : Cond.methodLink J.1.cls idx J'.1 ∈ mWS ∨ ∃ host, Cond.methodLinkNest J.1.cls idx J'.1 host ∈ mWN) (hin : Cond.instanceMethod J'.1 ∈ mWS) (hn : As.length = n) (h0 : st0 = As.reverse ++ .ref a :: st) (hrm : mRoom d d' J' st cn sn mc ms MC MS)
    (kk : mMet J' L xs d' mc ms (.ref a :: As) h (fun r h' => mGo J L xs d MC MS Post (cn + mc) (sn + ms) (pc + 3) lv (r.toList ++ st) h')) : mGo J L xs d MC MS Post cn sn pc lv st0 h := by
  intro p l e R s m args below meth c D ro A al0 Q C hH al ws H locs ls sC hx hY hL hs
  subst h0
  obtain ⟨AR, rC0, rfl, hs1, hs2⟩ := mL_app hs
  obtain ⟨a', c', rC, rfl, ha, hs2⟩ := mL_r hs2
  have hAC : mL ro al As AR.reverse := by have := mL_rev hs1; rw [List.reverse_reverse] at this; exact this
  have hsz : ls.size = J.2.2.1 := by obtain ⟨-, lc, q1, -⟩ := hL; exact q1.1
  obtain ⟨r1, r2, r3, r4, r5⟩ := hrm
  have hR := C.2.2.2.2.2.2.2.2.2.2
  have hpre := mPre (args := args) (AC := .ref a' :: AR.reverse) C.2.2.2.2.2.2.2.1 C.2.2.2.2.2.2.2.2.1 C.2.2.2.2.2.2.2.2.2.1 hY
  have hA2 : mL ro al (.ref a :: As) (.ref a' :: AR.reverse) := ⟨by simp [mF, ha], hAC⟩
  have hgo : ∀ (r rc : Option Value) (h' : mHeap) (al' : mAl) (ws' : va_W) (H1 : Heap) (locs1 : List Loc), mO ro al' r rc → mExt al al' → mGo J L xs d MC MS Post (cn + mc) (sn + ms) (pc + 3) lv (r.toList ++ st) h' → mDyn ro A s D al' ws' H1 locs1 h' → W p l e R s m args below meth c H1 locs1 (cn + mc) (sn + ms) Q (F0 m (pc + 3) ls (rc.toList ++ rC)) := by
    intro r rc h' al' ws' H1 locs1 hO hx1 hp hY1
    refine hp p l e R s m args below meth c D ro A al0 Q C hH al' ws' H1 locs1 ls _ (hx.tr hx1) hY1 (mLv_ext hx1 hL) ?_
    match r, rc, hO with
    | none, none, _ => exact mL_ext hx1 hs2
    | some v, some w, hO => exact ⟨hO, mL_ext hx1 hs2⟩
  obtain ⟨J1, J2, J3, J4⟩ := J'
  cases hr0
  rcases hl with hl | ⟨host, hl⟩
  · exact ma_call (va_runI (As := AR.reverse) (rest := rC) (n := n) ⟨C.1, C.2.1, C.2.2.2.1, C.2.2.2.2.1, C.2.2.2.2.2.1⟩ (kk l D ro al ws (.ref a' :: AR.reverse) H.size hA2) ⟨callB_of n C.2.2.2.2.2.1 (mWs_good hw.1) rfl rfl rfl (C.2.2.2.2.2.1 _ hw.2.1) (C.2.2.2.2.2.1 _ hl) hw.2.2 ⟨Nat.le_trans r1 hR.1, Nat.le_trans r2 hR.2.1⟩, hi, C.2.2.2.2.2.1 _ hin⟩ hpre rfl (by rw [mL_len hAC]; exact hn) hsz (by rw [List.reverse_reverse]) (lv_room (by rw [mL_catsum hs2]; exact r3)) hd ⟨Nat.le_trans r4 hR.2.2.1, Nat.le_trans r5 hR.2.2.2⟩) hY.2.1 hY.2.2.1 C.2.2.2.2.2.2.2.2.2.1 hgo
  · exact ma_call (va_runIN (As := AR.reverse) (rest := rC) (n := n) ⟨C.1, C.2.1, C.2.2.2.1, C.2.2.2.2.1, C.2.2.2.2.2.1⟩ (kk l D ro al ws (.ref a' :: AR.reverse) H.size hA2) ⟨va_cnB n C.2.2.2.2.2.1 (mWs_good hw.1) rfl rfl rfl (C.2.2.2.2.2.2.2.1.2 _ hl) (C.2.2.2.2.2.1 _ hw.2.1) hw.2.2 ⟨Nat.le_trans r1 hR.1, Nat.le_trans r2 hR.2.1⟩, hi, C.2.2.2.2.2.1 _ hin⟩ hpre rfl (by rw [mL_len hAC]; exact hn) hsz (by rw [List.reverse_reverse]) (lv_room (by rw [mL_catsum hs2]; exact r3)) hd ⟨Nat.le_trans r4 hR.2.2.1, Nat.le_trans r5 hR.2.2.2⟩) hY.2.1 hY.2.2.1 C.2.2.2.2.2.2.2.2.2.1 hgo
end MJ3
