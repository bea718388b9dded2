def hd3 (l : List Nat) (p : Nat) : Nat := if l.getD p 0 % 32 = 31 then p + 3 else p + 2
def mt (l : List Nat) (p : Nat) : Nat := if l.getD p 0 % 32 = 31 then 256 * l.getD p 0 + l.getD (p + 1) 0 else l.getD p 0
/-- the search for a tag: the ends of the rows that stand open (the innermost first), and a place -/
def fnd (l : List Nat) (tag : Int32) : Nat → List Nat → Nat → Option Int32
  | 0, _, _ => none
  | _ + 1, [], _ => some (-1)
  | n + 1, e :: es, p => if p = e then fnd l tag n es p else if e < hd3 l p then some (-1) else if e < hd3 l p + l.getD (hd3 l p - 1) 0 then some (-1) else if tag = nI (mt l p) then some (nI (hd3 l p)) else if l.getD p 0 / 32 % 2 = 1 then fnd l tag n ((hd3 l p + l.getD (hd3 l p - 1) 0) :: e :: es) (hd3 l p) else fnd l tag n (e :: es) (hd3 l p + l.getD (hd3 l p - 1) 0)
def stkOf (e : Nat → Nat) : Nat → List Nat
  | 0 => [e 0]
  | d + 1 => e (d + 1) :: stkOf e d
theorem stkOf_c {e e' : Nat → Nat} : ∀ {d : Nat}, (∀ j, j ≤ d → e j = e' j) → stkOf e d = stkOf e' d
  | 0, h => by rw [stkOf, stkOf, h 0 (Nat.le_refl _)]
  | d + 1, h => by rw [stkOf, stkOf, h (d + 1) (Nat.le_refl _), stkOf_c (fun j hj => h j (by omega))]
theorem stkOf_s (e : Nat → Nat) (d : Nat) : ∃ es, stkOf e d = e d :: es := by cases d <;> exact ⟨_, rfl⟩
theorem hd3_ge (l : List Nat) (p : Nat) : p + 2 ≤ hd3 l p ∧ hd3 l p ≤ p + 3 := by unfold hd3; split <;> omega
/-- behind all ends the search finds nothing -/
theorem fnd_end {l : List Nat} {tag : Int32} {p : Nat} : ∀ (n : Nat) (s : List Nat), (∀ e ∈ s, e = p) → ∀ r, fnd l tag n s p = some r → r = -1
  | 0, s, _, r, h => by cases h
  | n + 1, [], _, r, h => by cases h; rfl
  | n + 1, e :: es, hs, r, h => by
    rw [fnd, if_pos (hs e List.mem_cons_self).symm] at h
    exact fnd_end n es (fun x hx => hs x (List.mem_cons_of_mem _ hx)) r h
theorem stkOf_eq {e : Nat → Nat} {p : Nat} : ∀ {d : Nat}, (∀ j, j ≤ d → e j = p) → ∀ x ∈ stkOf e d, x = p
  | 0, h, x, hx => by simp only [stkOf, List.mem_cons, List.not_mem_nil, or_false] at hx; rw [hx]; exact h 0 (Nat.le_refl _)
  | d + 1, h, x, hx => by
    rcases List.mem_cons.mp hx with rfl | hx
    · exact h (d + 1) (Nat.le_refl _)
    · exact stkOf_eq (fun j hj => h j (by omega)) x hx
theorem nI_and31 {t : Nat} (h : t < 2 ^ 32) : nI t &&& nI 31 = nI (t % 32) := by
  rw [show nI 31 = (31 : Int32) from rfl, pk_andN h 5 (by decide)]
theorem nI_and (a b : Nat) : nI a &&& nI b = nI (a &&& b) := by
  apply Int32.toBitVec_inj.1
  show BitVec.ofNat 32 a &&& BitVec.ofNat 32 b = BitVec.ofNat 32 (a &&& b)
  apply BitVec.eq_of_getLsbD_eq
  intro i hi
  simp [hi]
theorem and32 : ∀ t, t < 256 → t &&& 32 = 32 * (t / 32 % 2) := by decide +kernel
theorem getD_lt {l : List Nat} (hb : ∀ b ∈ l, b < 256) (p : Nat) : l.getD p 0 < 256 := by
  rw [List.getD_eq_getElem?_getD]
  cases h : l[p]? with
  | none => decide
  | some x => exact hb x (List.mem_of_getElem? h)
/-- the ends: the outermost is the row's, each inner one at most the outer; the place is at most the innermost -/
def EI (l : List Nat) (e : Nat → Nat) (d p : Nat) : Prop := e 0 = l.length ∧ (∀ j, j < d → e (j + 1) ≤ e j) ∧ p ≤ e d
theorem EI_le {l : List Nat} {e : Nat → Nat} {d p : Nat} (h : EI l e d p) : ∀ j, j ≤ d → e j ≤ l.length ∧ p ≤ e j := by
  obtain ⟨h0, h1, h2⟩ := h
  have a : ∀ j, j ≤ d → e j ≤ l.length := by
    intro j
    induction j with
    | zero => intro _; omega
    | succ j ih => intro hj; have := ih (by omega); have := h1 j (by omega); omega
  have b : ∀ i j, j + i = d → p ≤ e j := by
    intro i
    induction i with
    | zero => intro j hj; rw [show j = d by omega]; exact h2
    | succ i ih => intro j hj; have := ih (j + 1) (by omega); have := h1 j (by omega); omega
  exact fun j hj => ⟨a j hj, b (d - j) j (by omega)⟩
def eUp (e : Nat → Nat) (d v : Nat) : Nat → Nat := fun j => if j = d then v else e j
theorem EI_pop {l : List Nat} {e : Nat → Nat} {d p : Nat} (h : EI l e (d + 1) p) : EI l e d p := ⟨h.1, fun j hj => h.2.1 j (by omega), (EI_le h d (by omega)).2⟩
theorem EI_push {l : List Nat} {e : Nat → Nat} {d p v q : Nat} (h : EI l e d p) (hv : v ≤ e d) (hq : q ≤ v) : EI l (eUp e (d + 1) v) (d + 1) q := by
  refine ⟨by rw [eUp, if_neg (by omega)]; exact h.1, fun j hj => ?_, by rw [eUp, if_pos rfl]; exact hq⟩
  unfold eUp
  rw [if_neg (show ¬ j = d + 1 by omega)]
  by_cases e1 : j + 1 = d + 1
  · rw [if_pos e1, show j = d by omega]; exact hv
  · rw [if_neg e1]; exact h.2.1 j (by omega)
theorem stk_push (e : Nat → Nat) (d v : Nat) : stkOf (eUp e (d + 1) v) (d + 1) = v :: stkOf e d := by
  rw [stkOf, eUp, if_pos rfl]
  congr 1
  exact stkOf_c (fun j hj => by rw [eUp, if_neg (by omega)])
theorem FA_push {e : Nat → Nat} {d v : Nat} {E : Nat → Int32} (h : FA (d + 1) e E) : FA (d + 2) (eUp e (d + 1) v) (upd E (d + 1) (nI v)) := by
  intro j hj
  by_cases q : j = d + 1
  · subst q; rw [pk_us, eUp, if_pos rfl]
  · rw [pk_un q, h j (by omega), eUp, if_neg q]
/-- the head of the search's loop, with what follows as a hypothesis -/
theorem lp_head {L : Nat} {xs : Nat → Int32} {Post : Option Value → mHeap → Prop} {h : mHeap} {l : List Nat} {fr E0 : Nat → Int32} {tag r : Int32} (h7 : h[7]? = some (.inr (1, [.ref 8]))) (h8 : h[8]? = some (cArr 32 E0)) (hr : RA h 3 4 32 l fr) (kP : ∀ E, Post (some (.int r)) (h.set 8 (cArr 32 E))) {n : Nat} (ih : ∀ (e : Nat → Nat) (d p q : Nat) (E : Nat → Int32) (w6 w7 w8 w9 : Option Value), EI l e d p → d ≤ q → 2 * q ≤ p → p < l.length → FA (d + 1) e E → fnd l tag n (stkOf e d) p = some r → mGo M_Tag_placeOf L xs (1, 21) 0 0 Post 0 0 34 [some (.ref 7), some (.int tag), some (.ref 3), some (.int (nI d)), some (.int (nI p)), some (.int (nI q)), w6, w7, w8, w9] [] (h.set 8 (cArr 32 E))) : ∀ (e : Nat → Nat) (d p q : Nat) (E : Nat → Int32) (w6 w7 w8 w9 : Option Value), EI l e d p → d ≤ q → 2 * q ≤ p → FA (d + 1) e E → fnd l tag n (stkOf e d) p = some r → mGo M_Tag_placeOf L xs (1, 21) 0 0 Post 0 0 18 [some (.ref 7), some (.int tag), some (.ref 3), some (.int (nI d)), some (.int (nI p)), some (.int (nI q)), w6, w7, w8, w9] [] (h.set 8 (cArr 32 E)) := by
  intro e d p q E w6 w7 w8 w9 hI hdq hqp hE hf
  have hle := EI_le hI d (Nat.le_refl _)
  have h32 := hr.2.2.2.1
  refine mj_iload d_Tag_placeOf_18 rfl ?_
  refine mj_bipush d_Tag_placeOf_20 (nI 32) (by decide) ?_
  refine mj_icmpgeN d_Tag_placeOf_22 210 rfl (by omega) (fun c_22 => ?_) (fun c_22 => ?_)
  · omega
  · refine mj_iload d_Tag_placeOf_25 rfl ?_
    refine mj_aload_n d_Tag_placeOf_27 rfl ?_
    refine mj_virtual (d' := (0, 0)) (mc := 0) (ms := 0) (As := []) d_Tag_placeOf_28 cw_Row_size q_368 q_204 q_205 (ci := 0) rfl (gne hr.1 (by decide)) rfl rfl (mRoomB rfl) ?_
    refine s_Row_size (⟨gne hr.1 (by decide), gne hr.2.1 (by decide), hr.2.2⟩ : RA (h.set 8 (cArr 32 E)) 3 4 32 l fr) ?_
    refine mj_icmpgeN d_Tag_placeOf_31 210 rfl (by omega) (fun c_31 => ?_) (fun c_31 => ?_)
    · refine mj_iconst d_Tag_placeOf_210 (-1) (by decide) ?_
      refine mj_iret d_Tag_placeOf_211 rfl rfl (Nat.le_refl _) (Nat.le_refl _) ?_
      have hr1 := fnd_end n _ (stkOf_eq (fun j hj => by have := EI_le hI j hj; omega)) r hf
      rw [hr1] at kP
      exact kP E
    · exact ih e d p q E _ _ _ _ hI hdq hqp (by omega) hE hf
theorem lp_place {L : Nat} {xs : Nat → Int32} {Post : Option Value → mHeap → Prop} {h : mHeap} {l : List Nat} {fr E0 : Nat → Int32} {tag r : Int32} (h7 : h[7]? = some (.inr (1, [.ref 8]))) (h8 : h[8]? = some (cArr 32 E0)) (hr : RA h 3 4 32 l fr) (hb : ∀ b ∈ l, b < 256) (kP : ∀ E, Post (some (.int r)) (h.set 8 (cArr 32 E))) : ∀ (n : Nat) (e : Nat → Nat) (d p q : Nat) (E : Nat → Int32) (w6 w7 w8 w9 : Option Value), EI l e d p → d ≤ q → 2 * q ≤ p → p < l.length → FA (d + 1) e E → fnd l tag n (stkOf e d) p = some r → mGo M_Tag_placeOf L xs (1, 21) 0 0 Post 0 0 34 [some (.ref 7), some (.int tag), some (.ref 3), some (.int (nI d)), some (.int (nI p)), some (.int (nI q)), w6, w7, w8, w9] [] (h.set 8 (cArr 32 E)) := by
  intro n
  have h32 := hr.2.2.2.1
  induction n with
  | zero =>
    intro e d p q E w6 w7 w8 w9 hI hdq hqp hpl hE hf
    exact absurd hf (by rw [fnd]; simp)
  | succ n ih =>
    intro e d p q E w6 w7 w8 w9 hI hdq hqp hpl hE hf
    have hle := EI_le hI d (Nat.le_refl _)
    refine mj_iload_n d_Tag_placeOf_34 rfl ?_
    refine mj_ifleN d_Tag_placeOf_35 55 rfl (by omega) (fun c_35 => ?_) (fun c_35 => ?_)
    · have hpe : ¬ p = e d := by
        intro z
        have h0 := hI.1
        rcases Nat.eq_zero_or_pos d with y | y
        · subst y; omega
        · omega
      obtain ⟨es, hes⟩ := stkOf_s e d
      rw [hes] at hf
      refine mj_aload_n d_Tag_placeOf_55 rfl ?_
      refine mj_iload d_Tag_placeOf_56 rfl ?_
      refine mj_virtual (d' := (0, 0)) (mc := 0) (ms := 0) (As := [_]) d_Tag_placeOf_58 cw_Row_at q_369 q_229 q_230 (ci := 0) rfl (gne hr.1 (by decide)) rfl rfl (mRoomB rfl) ?_
      refine s_Row_at (⟨gne hr.1 (by decide), gne hr.2.1 (by decide), hr.2.2⟩ : RA (h.set 8 (cArr 32 E)) 3 4 32 l fr) ?_
      rw [atV_in hpl (by omega)]
      refine mj_istore d_Tag_placeOf_61 (by decide) ?_
      dsimp only [mSt1, mSt2, mKill, Nat.reduceAdd]
      refine mj_iload d_Tag_placeOf_63 rfl ?_
      refine mj_bipush d_Tag_placeOf_65 (nI 31) (by decide) ?_
      refine mj_iand d_Tag_placeOf_67 ?_
      rw [nI_and31 (by have := getD_lt hb p; omega)]
      refine mj_bipush d_Tag_placeOf_68 (nI 31) (by decide) ?_
      refine mj_icmpneN d_Tag_placeOf_70 77 rfl (by omega) (fun c_70 => ?_) (fun c_70 => ?_)
      · have eh : hd3 l p = p + 2 := by unfold hd3; rw [if_neg (by omega)]
        have em : mt l p = l.getD p 0 := by unfold mt; rw [if_neg (by omega)]
        refine mj_iconst d_Tag_placeOf_77 (nI 0) (by decide) ?_
        refine mj_istore d_Tag_placeOf_78 (by decide) ?_
        dsimp only [mSt1, mSt2, mKill, Nat.reduceAdd]
        refine mj_iload d_Tag_placeOf_80 rfl ?_
        refine mj_iload d_Tag_placeOf_82 rfl ?_
        refine mj_ifeqN d_Tag_placeOf_84 91 rfl (by omega) (fun c_84 => ?_) (fun c_84 => ?_)
        · refine mj_iconst d_Tag_placeOf_91 (nI 2) (by decide) ?_
          refine mj_iadd d_Tag_placeOf_92 ?_
          rw [nI_add]
          refine mj_istore d_Tag_placeOf_93 (by decide) ?_
          dsimp only [mSt1, mSt2, mKill, Nat.reduceAdd]
          refine mj_iload d_Tag_placeOf_95 rfl ?_
          refine mj_aload_n d_Tag_placeOf_97 rfl ?_
          refine mj_get d_Tag_placeOf_98 fd_Tag_9 (gne h7 (by decide)) rfl ?_
          refine mj_iload_n d_Tag_placeOf_101 rfl ?_
          refine mj_ialdN d_Tag_placeOf_102 (gself h8) (by omega) ?_
          rw [hE _ (by omega)]
          refine mj_icmpleN d_Tag_placeOf_103 108 rfl (by have := EI_le hI d (by omega); omega) (fun c_103 => ?_) (fun c_103 => ?_)
          · refine mj_iload d_Tag_placeOf_108 rfl ?_
            refine mj_aload_n d_Tag_placeOf_110 rfl ?_
            refine mj_iload d_Tag_placeOf_111 rfl ?_
            refine mj_iconst d_Tag_placeOf_113 (nI 1) (by decide) ?_
            refine mj_isub d_Tag_placeOf_114 ?_
            rw [pk_sub (by omega)]
            refine mj_virtual (d' := (0, 0)) (mc := 0) (ms := 0) (As := [_]) d_Tag_placeOf_115 cw_Row_at q_369 q_229 q_230 (ci := 0) rfl (gne hr.1 (by decide)) rfl rfl (mRoomB rfl) ?_
            refine s_Row_at (⟨gne hr.1 (by decide), gne hr.2.1 (by decide), hr.2.2⟩ : RA (h.set 8 (cArr 32 E)) 3 4 32 l fr) ?_
            rw [atV_in (by have := EI_le hI d (by omega); omega) (by omega)]
            refine mj_iadd d_Tag_placeOf_118 ?_
            rw [nI_add]
            refine mj_istore d_Tag_placeOf_119 (by decide) ?_
            dsimp only [mSt1, mSt2, mKill, Nat.reduceAdd]
            refine mj_iload d_Tag_placeOf_121 rfl ?_
            refine mj_aload_n d_Tag_placeOf_123 rfl ?_
            refine mj_get d_Tag_placeOf_124 fd_Tag_9 (gne h7 (by decide)) rfl ?_
            refine mj_iload_n d_Tag_placeOf_127 rfl ?_
            refine mj_ialdN d_Tag_placeOf_128 (gself h8) (by omega) ?_
            rw [hE _ (by omega)]
            refine mj_icmpleN d_Tag_placeOf_129 134 rfl (by have := EI_le hI d (by omega); have := getD_lt hb (p + 2); have := getD_lt hb (p + 1); have := getD_lt hb (p + 3 - 1); have := getD_lt hb (p + 2 - 1); omega) (fun c_129 => ?_) (fun c_129 => ?_)
            · refine mj_iload_n d_Tag_placeOf_134 rfl ?_
              refine mj_iload d_Tag_placeOf_135 rfl ?_
              refine mj_ifeqN d_Tag_placeOf_137 158 rfl (by omega) (fun c_137 => ?_) (fun c_137 => ?_)
              · refine mj_iload d_Tag_placeOf_158 rfl ?_
                refine mj_icmpne d_Tag_placeOf_160 166 rfl (fun c_160 => ?_) (fun c_160 => ?_)
                · refine mj_iload d_Tag_placeOf_166 rfl ?_
                  refine mj_istore d_Tag_placeOf_168 (by decide) ?_
                  dsimp only [mSt1, mSt2, mKill, Nat.reduceAdd]
                  refine mj_iload d_Tag_placeOf_170 rfl ?_
                  refine mj_bipush d_Tag_placeOf_172 (nI 32) (by decide) ?_
                  refine mj_iand d_Tag_placeOf_174 ?_
                  rw [nI_and, and32 _ (getD_lt hb p)]
                  refine mj_ifeqN d_Tag_placeOf_175 204 rfl (by have := getD_lt hb p; omega) (fun c_175 => ?_) (fun c_175 => ?_)
                  · refine mj_iinc d_Tag_placeOf_204 rfl (by decide) (nI (q + 1)) (nI_1 q) ?_
                    dsimp only [mSt1, mSt2, mKill, Nat.reduceAdd]
                    refine mj_goto d_Tag_placeOf_207 18 rfl ?_
                    first
                      | (have hf2 := hf
                         rw [fnd, if_neg (by omega), if_neg (by omega), if_neg (by rw [eh]; omega), if_neg (by rw [em]; exact c_160), if_pos (by omega), eh] at hf2
                         refine lp_head h7 h8 hr kP ih (eUp e (d + 1) _) (d + 1) _ _ _ _ _ _ _ (EI_push hI (by omega) (by omega)) (by omega) (by omega) (FA_push hE) ?_
                         rw [stk_push, hes]; exact hf2)
                      | (have hf2 := hf
                         rw [fnd, if_neg (by omega), if_neg (by omega), if_neg (by rw [eh]; omega), if_neg (by rw [em]; exact c_160), if_neg (by omega), eh, ← hes] at hf2
                         exact lp_head h7 h8 hr kP ih e d _ _ _ _ _ _ _ ⟨hI.1, hI.2.1, by omega⟩ (by omega) (by omega) hE hf2)
                  · refine mj_iinc d_Tag_placeOf_178 rfl (by decide) (nI (d + 1)) (nI_1 d) ?_
                    dsimp only [mSt1, mSt2, mKill, Nat.reduceAdd]
                    refine mj_iload_n d_Tag_placeOf_181 rfl ?_
                    refine mj_aload_n d_Tag_placeOf_182 rfl ?_
                    refine mj_get d_Tag_placeOf_183 fd_Tag_9 (gne h7 (by decide)) rfl ?_
                    refine mj_alen d_Tag_placeOf_186 (gself h8) ?_
                    refine mj_icmpltN d_Tag_placeOf_187 192 rfl (by omega) (fun c_187 => ?_) (fun c_187 => ?_)
                    · refine mj_aload_n d_Tag_placeOf_192 rfl ?_
                      refine mj_get d_Tag_placeOf_193 fd_Tag_9 (gne h7 (by decide)) rfl ?_
                      refine mj_iload_n d_Tag_placeOf_196 rfl ?_
                      refine mj_iload d_Tag_placeOf_197 rfl ?_
                      refine mj_iastN d_Tag_placeOf_199 (gself h8) (by omega) ?_
                      rw [List.set_set]
                      refine mj_iload d_Tag_placeOf_200 rfl ?_
                      refine mj_istore d_Tag_placeOf_202 (by decide) ?_
                      dsimp only [mSt1, mSt2, mKill, Nat.reduceAdd]
                      refine mj_iinc d_Tag_placeOf_204 rfl (by decide) (nI (q + 1)) (nI_1 q) ?_
                      dsimp only [mSt1, mSt2, mKill, Nat.reduceAdd]
                      refine mj_goto d_Tag_placeOf_207 18 rfl ?_
                      first
                        | (have hf2 := hf
                           rw [fnd, if_neg (by omega), if_neg (by omega), if_neg (by rw [eh]; omega), if_neg (by rw [em]; exact c_160), if_pos (by omega), eh] at hf2
                           refine lp_head h7 h8 hr kP ih (eUp e (d + 1) _) (d + 1) _ _ _ _ _ _ _ (EI_push hI (by omega) (by omega)) (by omega) (by omega) (FA_push hE) ?_
                           rw [stk_push, hes]; exact hf2)
                        | (have hf2 := hf
                           rw [fnd, if_neg (by omega), if_neg (by omega), if_neg (by rw [eh]; omega), if_neg (by rw [em]; exact c_160), if_neg (by omega), eh, ← hes] at hf2
                           exact lp_head h7 h8 hr kP ih e d _ _ _ _ _ _ _ ⟨hI.1, hI.2.1, by omega⟩ (by omega) (by omega) hE hf2)
                    · omega
                · refine mj_iload d_Tag_placeOf_163 rfl ?_
                  refine mj_iret d_Tag_placeOf_165 rfl rfl (Nat.le_refl _) (Nat.le_refl _) ?_
                  rw [fnd, if_neg (by omega), if_neg (by omega), if_neg (by rw [eh]; omega), if_pos (by rw [em]; exact c_160), eh] at hf
                  cases hf
                  exact kP E
              · omega
            · refine mj_iconst d_Tag_placeOf_132 (-1) (by decide) ?_
              refine mj_iret d_Tag_placeOf_133 rfl rfl (Nat.le_refl _) (Nat.le_refl _) ?_
              rw [fnd, if_neg (by omega), if_neg (by omega), if_pos (by rw [eh]; omega)] at hf
              cases hf
              exact kP E
          · refine mj_iconst d_Tag_placeOf_106 (-1) (by decide) ?_
            refine mj_iret d_Tag_placeOf_107 rfl rfl (Nat.le_refl _) (Nat.le_refl _) ?_
            rw [fnd, if_neg (by omega), if_pos (by omega)] at hf
            cases hf
            exact kP E
        · omega
      · have eh : hd3 l p = p + 3 := by unfold hd3; rw [if_pos (by omega)]
        have em : mt l p = 256 * l.getD p 0 + l.getD (p + 1) 0 := by unfold mt; rw [if_pos (by omega)]
        refine mj_iconst d_Tag_placeOf_73 (nI 1) (by decide) ?_
        refine mj_goto d_Tag_placeOf_74 78 rfl ?_
        refine mj_istore d_Tag_placeOf_78 (by decide) ?_
        dsimp only [mSt1, mSt2, mKill, Nat.reduceAdd]
        refine mj_iload d_Tag_placeOf_80 rfl ?_
        refine mj_iload d_Tag_placeOf_82 rfl ?_
        refine mj_ifeqN d_Tag_placeOf_84 91 rfl (by omega) (fun c_84 => ?_) (fun c_84 => ?_)
        · omega
        · refine mj_iconst d_Tag_placeOf_87 (nI 3) (by decide) ?_
          refine mj_goto d_Tag_placeOf_88 92 rfl ?_
          refine mj_iadd d_Tag_placeOf_92 ?_
          rw [nI_add]
          refine mj_istore d_Tag_placeOf_93 (by decide) ?_
          dsimp only [mSt1, mSt2, mKill, Nat.reduceAdd]
          refine mj_iload d_Tag_placeOf_95 rfl ?_
          refine mj_aload_n d_Tag_placeOf_97 rfl ?_
          refine mj_get d_Tag_placeOf_98 fd_Tag_9 (gne h7 (by decide)) rfl ?_
          refine mj_iload_n d_Tag_placeOf_101 rfl ?_
          refine mj_ialdN d_Tag_placeOf_102 (gself h8) (by omega) ?_
          rw [hE _ (by omega)]
          refine mj_icmpleN d_Tag_placeOf_103 108 rfl (by have := EI_le hI d (by omega); omega) (fun c_103 => ?_) (fun c_103 => ?_)
          · refine mj_iload d_Tag_placeOf_108 rfl ?_
            refine mj_aload_n d_Tag_placeOf_110 rfl ?_
            refine mj_iload d_Tag_placeOf_111 rfl ?_
            refine mj_iconst d_Tag_placeOf_113 (nI 1) (by decide) ?_
            refine mj_isub d_Tag_placeOf_114 ?_
            rw [pk_sub (by omega)]
            refine mj_virtual (d' := (0, 0)) (mc := 0) (ms := 0) (As := [_]) d_Tag_placeOf_115 cw_Row_at q_369 q_229 q_230 (ci := 0) rfl (gne hr.1 (by decide)) rfl rfl (mRoomB rfl) ?_
            refine s_Row_at (⟨gne hr.1 (by decide), gne hr.2.1 (by decide), hr.2.2⟩ : RA (h.set 8 (cArr 32 E)) 3 4 32 l fr) ?_
            rw [atV_in (by have := EI_le hI d (by omega); omega) (by omega)]
            refine mj_iadd d_Tag_placeOf_118 ?_
            rw [nI_add]
            refine mj_istore d_Tag_placeOf_119 (by decide) ?_
            dsimp only [mSt1, mSt2, mKill, Nat.reduceAdd]
            refine mj_iload d_Tag_placeOf_121 rfl ?_
            refine mj_aload_n d_Tag_placeOf_123 rfl ?_
            refine mj_get d_Tag_placeOf_124 fd_Tag_9 (gne h7 (by decide)) rfl ?_
            refine mj_iload_n d_Tag_placeOf_127 rfl ?_
            refine mj_ialdN d_Tag_placeOf_128 (gself h8) (by omega) ?_
            rw [hE _ (by omega)]
            refine mj_icmpleN d_Tag_placeOf_129 134 rfl (by have := EI_le hI d (by omega); have := getD_lt hb (p + 2); have := getD_lt hb (p + 1); have := getD_lt hb (p + 3 - 1); have := getD_lt hb (p + 2 - 1); omega) (fun c_129 => ?_) (fun c_129 => ?_)
            · refine mj_iload_n d_Tag_placeOf_134 rfl ?_
              refine mj_iload d_Tag_placeOf_135 rfl ?_
              refine mj_ifeqN d_Tag_placeOf_137 158 rfl (by omega) (fun c_137 => ?_) (fun c_137 => ?_)
              · omega
              · refine mj_sipush d_Tag_placeOf_140 (nI 256) (by decide) ?_
                refine mj_iload d_Tag_placeOf_143 rfl ?_
                refine mj_imul d_Tag_placeOf_145 ?_
                rw [pk_mul]
                refine mj_aload_n d_Tag_placeOf_146 rfl ?_
                refine mj_iload d_Tag_placeOf_147 rfl ?_
                refine mj_iconst d_Tag_placeOf_149 (nI 1) (by decide) ?_
                refine mj_iadd d_Tag_placeOf_150 ?_
                rw [nI_add]
                refine mj_virtual (d' := (0, 0)) (mc := 0) (ms := 0) (As := [_]) d_Tag_placeOf_151 cw_Row_at q_369 q_229 q_230 (ci := 0) rfl (gne hr.1 (by decide)) rfl rfl (mRoomB rfl) ?_
                refine s_Row_at (⟨gne hr.1 (by decide), gne hr.2.1 (by decide), hr.2.2⟩ : RA (h.set 8 (cArr 32 E)) 3 4 32 l fr) ?_
                rw [atV_in (by have := EI_le hI d (by omega); omega) (by omega)]
                refine mj_iadd d_Tag_placeOf_154 ?_
                rw [nI_add]
                refine mj_goto d_Tag_placeOf_155 160 rfl ?_
                refine mj_icmpne d_Tag_placeOf_160 166 rfl (fun c_160 => ?_) (fun c_160 => ?_)
                · refine mj_iload d_Tag_placeOf_166 rfl ?_
                  refine mj_istore d_Tag_placeOf_168 (by decide) ?_
                  dsimp only [mSt1, mSt2, mKill, Nat.reduceAdd]
                  refine mj_iload d_Tag_placeOf_170 rfl ?_
                  refine mj_bipush d_Tag_placeOf_172 (nI 32) (by decide) ?_
                  refine mj_iand d_Tag_placeOf_174 ?_
                  rw [nI_and, and32 _ (getD_lt hb p)]
                  refine mj_ifeqN d_Tag_placeOf_175 204 rfl (by have := getD_lt hb p; omega) (fun c_175 => ?_) (fun c_175 => ?_)
                  · refine mj_iinc d_Tag_placeOf_204 rfl (by decide) (nI (q + 1)) (nI_1 q) ?_
                    dsimp only [mSt1, mSt2, mKill, Nat.reduceAdd]
                    refine mj_goto d_Tag_placeOf_207 18 rfl ?_
                    first
                      | (have hf2 := hf
                         rw [fnd, if_neg (by omega), if_neg (by omega), if_neg (by rw [eh]; omega), if_neg (by rw [em]; exact c_160), if_pos (by omega), eh] at hf2
                         refine lp_head h7 h8 hr kP ih (eUp e (d + 1) _) (d + 1) _ _ _ _ _ _ _ (EI_push hI (by omega) (by omega)) (by omega) (by omega) (FA_push hE) ?_
                         rw [stk_push, hes]; exact hf2)
                      | (have hf2 := hf
                         rw [fnd, if_neg (by omega), if_neg (by omega), if_neg (by rw [eh]; omega), if_neg (by rw [em]; exact c_160), if_neg (by omega), eh, ← hes] at hf2
                         exact lp_head h7 h8 hr kP ih e d _ _ _ _ _ _ _ ⟨hI.1, hI.2.1, by omega⟩ (by omega) (by omega) hE hf2)
                  · refine mj_iinc d_Tag_placeOf_178 rfl (by decide) (nI (d + 1)) (nI_1 d) ?_
                    dsimp only [mSt1, mSt2, mKill, Nat.reduceAdd]
                    refine mj_iload_n d_Tag_placeOf_181 rfl ?_
                    refine mj_aload_n d_Tag_placeOf_182 rfl ?_
                    refine mj_get d_Tag_placeOf_183 fd_Tag_9 (gne h7 (by decide)) rfl ?_
                    refine mj_alen d_Tag_placeOf_186 (gself h8) ?_
                    refine mj_icmpltN d_Tag_placeOf_187 192 rfl (by omega) (fun c_187 => ?_) (fun c_187 => ?_)
                    · refine mj_aload_n d_Tag_placeOf_192 rfl ?_
                      refine mj_get d_Tag_placeOf_193 fd_Tag_9 (gne h7 (by decide)) rfl ?_
                      refine mj_iload_n d_Tag_placeOf_196 rfl ?_
                      refine mj_iload d_Tag_placeOf_197 rfl ?_
                      refine mj_iastN d_Tag_placeOf_199 (gself h8) (by omega) ?_
                      rw [List.set_set]
                      refine mj_iload d_Tag_placeOf_200 rfl ?_
                      refine mj_istore d_Tag_placeOf_202 (by decide) ?_
                      dsimp only [mSt1, mSt2, mKill, Nat.reduceAdd]
                      refine mj_iinc d_Tag_placeOf_204 rfl (by decide) (nI (q + 1)) (nI_1 q) ?_
                      dsimp only [mSt1, mSt2, mKill, Nat.reduceAdd]
                      refine mj_goto d_Tag_placeOf_207 18 rfl ?_
                      first
                        | (have hf2 := hf
                           rw [fnd, if_neg (by omega), if_neg (by omega), if_neg (by rw [eh]; omega), if_neg (by rw [em]; exact c_160), if_pos (by omega), eh] at hf2
                           refine lp_head h7 h8 hr kP ih (eUp e (d + 1) _) (d + 1) _ _ _ _ _ _ _ (EI_push hI (by omega) (by omega)) (by omega) (by omega) (FA_push hE) ?_
                           rw [stk_push, hes]; exact hf2)
                        | (have hf2 := hf
                           rw [fnd, if_neg (by omega), if_neg (by omega), if_neg (by rw [eh]; omega), if_neg (by rw [em]; exact c_160), if_neg (by omega), eh, ← hes] at hf2
                           exact lp_head h7 h8 hr kP ih e d _ _ _ _ _ _ _ ⟨hI.1, hI.2.1, by omega⟩ (by omega) (by omega) hE hf2)
                    · omega
                · refine mj_iload d_Tag_placeOf_163 rfl ?_
                  refine mj_iret d_Tag_placeOf_165 rfl rfl (Nat.le_refl _) (Nat.le_refl _) ?_
                  rw [fnd, if_neg (by omega), if_neg (by omega), if_neg (by rw [eh]; omega), if_pos (by rw [em]; exact c_160), eh] at hf
                  cases hf
                  exact kP E
            · refine mj_iconst d_Tag_placeOf_132 (-1) (by decide) ?_
              refine mj_iret d_Tag_placeOf_133 rfl rfl (Nat.le_refl _) (Nat.le_refl _) ?_
              rw [fnd, if_neg (by omega), if_neg (by omega), if_pos (by rw [eh]; omega)] at hf
              cases hf
              exact kP E
          · refine mj_iconst d_Tag_placeOf_106 (-1) (by decide) ?_
            refine mj_iret d_Tag_placeOf_107 rfl rfl (Nat.le_refl _) (Nat.le_refl _) ?_
            rw [fnd, if_neg (by omega), if_pos (by omega)] at hf
            cases hf
            exact kP E
    · refine mj_iload d_Tag_placeOf_38 rfl ?_
      refine mj_aload_n d_Tag_placeOf_40 rfl ?_
      refine mj_get d_Tag_placeOf_41 fd_Tag_9 (gne h7 (by decide)) rfl ?_
      refine mj_iload_n d_Tag_placeOf_44 rfl ?_
      refine mj_ialdN d_Tag_placeOf_45 (gself h8) (by omega) ?_
      rw [hE _ (by omega)]
      refine mj_icmpltN d_Tag_placeOf_46 55 rfl (by omega) (fun c_46 => ?_) (fun c_46 => ?_)
      · have hpe : ¬ p = e d := by
          intro z
          have h0 := hI.1
          rcases Nat.eq_zero_or_pos d with y | y
          · subst y; omega
          · omega
        obtain ⟨es, hes⟩ := stkOf_s e d
        rw [hes] at hf
        refine mj_aload_n d_Tag_placeOf_55 rfl ?_
        refine mj_iload d_Tag_placeOf_56 rfl ?_
        refine mj_virtual (d' := (0, 0)) (mc := 0) (ms := 0) (As := [_]) d_Tag_placeOf_58 cw_Row_at q_369 q_229 q_230 (ci := 0) rfl (gne hr.1 (by decide)) rfl rfl (mRoomB rfl) ?_
        refine s_Row_at (⟨gne hr.1 (by decide), gne hr.2.1 (by decide), hr.2.2⟩ : RA (h.set 8 (cArr 32 E)) 3 4 32 l fr) ?_
        rw [atV_in hpl (by omega)]
        refine mj_istore d_Tag_placeOf_61 (by decide) ?_
        dsimp only [mSt1, mSt2, mKill, Nat.reduceAdd]
        refine mj_iload d_Tag_placeOf_63 rfl ?_
        refine mj_bipush d_Tag_placeOf_65 (nI 31) (by decide) ?_
        refine mj_iand d_Tag_placeOf_67 ?_
        rw [nI_and31 (by have := getD_lt hb p; omega)]
        refine mj_bipush d_Tag_placeOf_68 (nI 31) (by decide) ?_
        refine mj_icmpneN d_Tag_placeOf_70 77 rfl (by omega) (fun c_70 => ?_) (fun c_70 => ?_)
        · have eh : hd3 l p = p + 2 := by unfold hd3; rw [if_neg (by omega)]
          have em : mt l p = l.getD p 0 := by unfold mt; rw [if_neg (by omega)]
          refine mj_iconst d_Tag_placeOf_77 (nI 0) (by decide) ?_
          refine mj_istore d_Tag_placeOf_78 (by decide) ?_
          dsimp only [mSt1, mSt2, mKill, Nat.reduceAdd]
          refine mj_iload d_Tag_placeOf_80 rfl ?_
          refine mj_iload d_Tag_placeOf_82 rfl ?_
          refine mj_ifeqN d_Tag_placeOf_84 91 rfl (by omega) (fun c_84 => ?_) (fun c_84 => ?_)
          · refine mj_iconst d_Tag_placeOf_91 (nI 2) (by decide) ?_
            refine mj_iadd d_Tag_placeOf_92 ?_
            rw [nI_add]
            refine mj_istore d_Tag_placeOf_93 (by decide) ?_
            dsimp only [mSt1, mSt2, mKill, Nat.reduceAdd]
            refine mj_iload d_Tag_placeOf_95 rfl ?_
            refine mj_aload_n d_Tag_placeOf_97 rfl ?_
            refine mj_get d_Tag_placeOf_98 fd_Tag_9 (gne h7 (by decide)) rfl ?_
            refine mj_iload_n d_Tag_placeOf_101 rfl ?_
            refine mj_ialdN d_Tag_placeOf_102 (gself h8) (by omega) ?_
            rw [hE _ (by omega)]
            refine mj_icmpleN d_Tag_placeOf_103 108 rfl (by have := EI_le hI d (by omega); omega) (fun c_103 => ?_) (fun c_103 => ?_)
            · refine mj_iload d_Tag_placeOf_108 rfl ?_
              refine mj_aload_n d_Tag_placeOf_110 rfl ?_
              refine mj_iload d_Tag_placeOf_111 rfl ?_
              refine mj_iconst d_Tag_placeOf_113 (nI 1) (by decide) ?_
              refine mj_isub d_Tag_placeOf_114 ?_
              rw [pk_sub (by omega)]
              refine mj_virtual (d' := (0, 0)) (mc := 0) (ms := 0) (As := [_]) d_Tag_placeOf_115 cw_Row_at q_369 q_229 q_230 (ci := 0) rfl (gne hr.1 (by decide)) rfl rfl (mRoomB rfl) ?_
              refine s_Row_at (⟨gne hr.1 (by decide), gne hr.2.1 (by decide), hr.2.2⟩ : RA (h.set 8 (cArr 32 E)) 3 4 32 l fr) ?_
              rw [atV_in (by have := EI_le hI d (by omega); omega) (by omega)]
              refine mj_iadd d_Tag_placeOf_118 ?_
              rw [nI_add]
              refine mj_istore d_Tag_placeOf_119 (by decide) ?_
              dsimp only [mSt1, mSt2, mKill, Nat.reduceAdd]
              refine mj_iload d_Tag_placeOf_121 rfl ?_
              refine mj_aload_n d_Tag_placeOf_123 rfl ?_
              refine mj_get d_Tag_placeOf_124 fd_Tag_9 (gne h7 (by decide)) rfl ?_
              refine mj_iload_n d_Tag_placeOf_127 rfl ?_
              refine mj_ialdN d_Tag_placeOf_128 (gself h8) (by omega) ?_
              rw [hE _ (by omega)]
              refine mj_icmpleN d_Tag_placeOf_129 134 rfl (by have := EI_le hI d (by omega); have := getD_lt hb (p + 2); have := getD_lt hb (p + 1); have := getD_lt hb (p + 3 - 1); have := getD_lt hb (p + 2 - 1); omega) (fun c_129 => ?_) (fun c_129 => ?_)
              · refine mj_iload_n d_Tag_placeOf_134 rfl ?_
                refine mj_iload d_Tag_placeOf_135 rfl ?_
                refine mj_ifeqN d_Tag_placeOf_137 158 rfl (by omega) (fun c_137 => ?_) (fun c_137 => ?_)
                · refine mj_iload d_Tag_placeOf_158 rfl ?_
                  refine mj_icmpne d_Tag_placeOf_160 166 rfl (fun c_160 => ?_) (fun c_160 => ?_)
                  · refine mj_iload d_Tag_placeOf_166 rfl ?_
                    refine mj_istore d_Tag_placeOf_168 (by decide) ?_
                    dsimp only [mSt1, mSt2, mKill, Nat.reduceAdd]
                    refine mj_iload d_Tag_placeOf_170 rfl ?_
                    refine mj_bipush d_Tag_placeOf_172 (nI 32) (by decide) ?_
                    refine mj_iand d_Tag_placeOf_174 ?_
                    rw [nI_and, and32 _ (getD_lt hb p)]
                    refine mj_ifeqN d_Tag_placeOf_175 204 rfl (by have := getD_lt hb p; omega) (fun c_175 => ?_) (fun c_175 => ?_)
                    · refine mj_iinc d_Tag_placeOf_204 rfl (by decide) (nI (q + 1)) (nI_1 q) ?_
                      dsimp only [mSt1, mSt2, mKill, Nat.reduceAdd]
                      refine mj_goto d_Tag_placeOf_207 18 rfl ?_
                      first
                        | (have hf2 := hf
                           rw [fnd, if_neg (by omega), if_neg (by omega), if_neg (by rw [eh]; omega), if_neg (by rw [em]; exact c_160), if_pos (by omega), eh] at hf2
                           refine lp_head h7 h8 hr kP ih (eUp e (d + 1) _) (d + 1) _ _ _ _ _ _ _ (EI_push hI (by omega) (by omega)) (by omega) (by omega) (FA_push hE) ?_
                           rw [stk_push, hes]; exact hf2)
                        | (have hf2 := hf
                           rw [fnd, if_neg (by omega), if_neg (by omega), if_neg (by rw [eh]; omega), if_neg (by rw [em]; exact c_160), if_neg (by omega), eh, ← hes] at hf2
                           exact lp_head h7 h8 hr kP ih e d _ _ _ _ _ _ _ ⟨hI.1, hI.2.1, by omega⟩ (by omega) (by omega) hE hf2)
                    · refine mj_iinc d_Tag_placeOf_178 rfl (by decide) (nI (d + 1)) (nI_1 d) ?_
                      dsimp only [mSt1, mSt2, mKill, Nat.reduceAdd]
                      refine mj_iload_n d_Tag_placeOf_181 rfl ?_
                      refine mj_aload_n d_Tag_placeOf_182 rfl ?_
                      refine mj_get d_Tag_placeOf_183 fd_Tag_9 (gne h7 (by decide)) rfl ?_
                      refine mj_alen d_Tag_placeOf_186 (gself h8) ?_
                      refine mj_icmpltN d_Tag_placeOf_187 192 rfl (by omega) (fun c_187 => ?_) (fun c_187 => ?_)
                      · refine mj_aload_n d_Tag_placeOf_192 rfl ?_
                        refine mj_get d_Tag_placeOf_193 fd_Tag_9 (gne h7 (by decide)) rfl ?_
                        refine mj_iload_n d_Tag_placeOf_196 rfl ?_
                        refine mj_iload d_Tag_placeOf_197 rfl ?_
                        refine mj_iastN d_Tag_placeOf_199 (gself h8) (by omega) ?_
                        rw [List.set_set]
                        refine mj_iload d_Tag_placeOf_200 rfl ?_
                        refine mj_istore d_Tag_placeOf_202 (by decide) ?_
                        dsimp only [mSt1, mSt2, mKill, Nat.reduceAdd]
                        refine mj_iinc d_Tag_placeOf_204 rfl (by decide) (nI (q + 1)) (nI_1 q) ?_
                        dsimp only [mSt1, mSt2, mKill, Nat.reduceAdd]
                        refine mj_goto d_Tag_placeOf_207 18 rfl ?_
                        first
                          | (have hf2 := hf
                             rw [fnd, if_neg (by omega), if_neg (by omega), if_neg (by rw [eh]; omega), if_neg (by rw [em]; exact c_160), if_pos (by omega), eh] at hf2
                             refine lp_head h7 h8 hr kP ih (eUp e (d + 1) _) (d + 1) _ _ _ _ _ _ _ (EI_push hI (by omega) (by omega)) (by omega) (by omega) (FA_push hE) ?_
                             rw [stk_push, hes]; exact hf2)
                          | (have hf2 := hf
                             rw [fnd, if_neg (by omega), if_neg (by omega), if_neg (by rw [eh]; omega), if_neg (by rw [em]; exact c_160), if_neg (by omega), eh, ← hes] at hf2
                             exact lp_head h7 h8 hr kP ih e d _ _ _ _ _ _ _ ⟨hI.1, hI.2.1, by omega⟩ (by omega) (by omega) hE hf2)
                      · omega
                  · refine mj_iload d_Tag_placeOf_163 rfl ?_
                    refine mj_iret d_Tag_placeOf_165 rfl rfl (Nat.le_refl _) (Nat.le_refl _) ?_
                    rw [fnd, if_neg (by omega), if_neg (by omega), if_neg (by rw [eh]; omega), if_pos (by rw [em]; exact c_160), eh] at hf
                    cases hf
                    exact kP E
                · omega
              · refine mj_iconst d_Tag_placeOf_132 (-1) (by decide) ?_
                refine mj_iret d_Tag_placeOf_133 rfl rfl (Nat.le_refl _) (Nat.le_refl _) ?_
                rw [fnd, if_neg (by omega), if_neg (by omega), if_pos (by rw [eh]; omega)] at hf
                cases hf
                exact kP E
            · refine mj_iconst d_Tag_placeOf_106 (-1) (by decide) ?_
              refine mj_iret d_Tag_placeOf_107 rfl rfl (Nat.le_refl _) (Nat.le_refl _) ?_
              rw [fnd, if_neg (by omega), if_pos (by omega)] at hf
              cases hf
              exact kP E
          · omega
        · have eh : hd3 l p = p + 3 := by unfold hd3; rw [if_pos (by omega)]
          have em : mt l p = 256 * l.getD p 0 + l.getD (p + 1) 0 := by unfold mt; rw [if_pos (by omega)]
          refine mj_iconst d_Tag_placeOf_73 (nI 1) (by decide) ?_
          refine mj_goto d_Tag_placeOf_74 78 rfl ?_
          refine mj_istore d_Tag_placeOf_78 (by decide) ?_
          dsimp only [mSt1, mSt2, mKill, Nat.reduceAdd]
          refine mj_iload d_Tag_placeOf_80 rfl ?_
          refine mj_iload d_Tag_placeOf_82 rfl ?_
          refine mj_ifeqN d_Tag_placeOf_84 91 rfl (by omega) (fun c_84 => ?_) (fun c_84 => ?_)
          · omega
          · refine mj_iconst d_Tag_placeOf_87 (nI 3) (by decide) ?_
            refine mj_goto d_Tag_placeOf_88 92 rfl ?_
            refine mj_iadd d_Tag_placeOf_92 ?_
            rw [nI_add]
            refine mj_istore d_Tag_placeOf_93 (by decide) ?_
            dsimp only [mSt1, mSt2, mKill, Nat.reduceAdd]
            refine mj_iload d_Tag_placeOf_95 rfl ?_
            refine mj_aload_n d_Tag_placeOf_97 rfl ?_
            refine mj_get d_Tag_placeOf_98 fd_Tag_9 (gne h7 (by decide)) rfl ?_
            refine mj_iload_n d_Tag_placeOf_101 rfl ?_
            refine mj_ialdN d_Tag_placeOf_102 (gself h8) (by omega) ?_
            rw [hE _ (by omega)]
            refine mj_icmpleN d_Tag_placeOf_103 108 rfl (by have := EI_le hI d (by omega); omega) (fun c_103 => ?_) (fun c_103 => ?_)
            · refine mj_iload d_Tag_placeOf_108 rfl ?_
              refine mj_aload_n d_Tag_placeOf_110 rfl ?_
              refine mj_iload d_Tag_placeOf_111 rfl ?_
              refine mj_iconst d_Tag_placeOf_113 (nI 1) (by decide) ?_
              refine mj_isub d_Tag_placeOf_114 ?_
              rw [pk_sub (by omega)]
              refine mj_virtual (d' := (0, 0)) (mc := 0) (ms := 0) (As := [_]) d_Tag_placeOf_115 cw_Row_at q_369 q_229 q_230 (ci := 0) rfl (gne hr.1 (by decide)) rfl rfl (mRoomB rfl) ?_
              refine s_Row_at (⟨gne hr.1 (by decide), gne hr.2.1 (by decide), hr.2.2⟩ : RA (h.set 8 (cArr 32 E)) 3 4 32 l fr) ?_
              rw [atV_in (by have := EI_le hI d (by omega); omega) (by omega)]
              refine mj_iadd d_Tag_placeOf_118 ?_
              rw [nI_add]
              refine mj_istore d_Tag_placeOf_119 (by decide) ?_
              dsimp only [mSt1, mSt2, mKill, Nat.reduceAdd]
              refine mj_iload d_Tag_placeOf_121 rfl ?_
              refine mj_aload_n d_Tag_placeOf_123 rfl ?_
              refine mj_get d_Tag_placeOf_124 fd_Tag_9 (gne h7 (by decide)) rfl ?_
              refine mj_iload_n d_Tag_placeOf_127 rfl ?_
              refine mj_ialdN d_Tag_placeOf_128 (gself h8) (by omega) ?_
              rw [hE _ (by omega)]
              refine mj_icmpleN d_Tag_placeOf_129 134 rfl (by have := EI_le hI d (by omega); have := getD_lt hb (p + 2); have := getD_lt hb (p + 1); have := getD_lt hb (p + 3 - 1); have := getD_lt hb (p + 2 - 1); omega) (fun c_129 => ?_) (fun c_129 => ?_)
              · refine mj_iload_n d_Tag_placeOf_134 rfl ?_
                refine mj_iload d_Tag_placeOf_135 rfl ?_
                refine mj_ifeqN d_Tag_placeOf_137 158 rfl (by omega) (fun c_137 => ?_) (fun c_137 => ?_)
                · omega
                · refine mj_sipush d_Tag_placeOf_140 (nI 256) (by decide) ?_
                  refine mj_iload d_Tag_placeOf_143 rfl ?_
                  refine mj_imul d_Tag_placeOf_145 ?_
                  rw [pk_mul]
                  refine mj_aload_n d_Tag_placeOf_146 rfl ?_
                  refine mj_iload d_Tag_placeOf_147 rfl ?_
                  refine mj_iconst d_Tag_placeOf_149 (nI 1) (by decide) ?_
                  refine mj_iadd d_Tag_placeOf_150 ?_
                  rw [nI_add]
                  refine mj_virtual (d' := (0, 0)) (mc := 0) (ms := 0) (As := [_]) d_Tag_placeOf_151 cw_Row_at q_369 q_229 q_230 (ci := 0) rfl (gne hr.1 (by decide)) rfl rfl (mRoomB rfl) ?_
                  refine s_Row_at (⟨gne hr.1 (by decide), gne hr.2.1 (by decide), hr.2.2⟩ : RA (h.set 8 (cArr 32 E)) 3 4 32 l fr) ?_
                  rw [atV_in (by have := EI_le hI d (by omega); omega) (by omega)]
                  refine mj_iadd d_Tag_placeOf_154 ?_
                  rw [nI_add]
                  refine mj_goto d_Tag_placeOf_155 160 rfl ?_
                  refine mj_icmpne d_Tag_placeOf_160 166 rfl (fun c_160 => ?_) (fun c_160 => ?_)
                  · refine mj_iload d_Tag_placeOf_166 rfl ?_
                    refine mj_istore d_Tag_placeOf_168 (by decide) ?_
                    dsimp only [mSt1, mSt2, mKill, Nat.reduceAdd]
                    refine mj_iload d_Tag_placeOf_170 rfl ?_
                    refine mj_bipush d_Tag_placeOf_172 (nI 32) (by decide) ?_
                    refine mj_iand d_Tag_placeOf_174 ?_
                    rw [nI_and, and32 _ (getD_lt hb p)]
                    refine mj_ifeqN d_Tag_placeOf_175 204 rfl (by have := getD_lt hb p; omega) (fun c_175 => ?_) (fun c_175 => ?_)
                    · refine mj_iinc d_Tag_placeOf_204 rfl (by decide) (nI (q + 1)) (nI_1 q) ?_
                      dsimp only [mSt1, mSt2, mKill, Nat.reduceAdd]
                      refine mj_goto d_Tag_placeOf_207 18 rfl ?_
                      first
                        | (have hf2 := hf
                           rw [fnd, if_neg (by omega), if_neg (by omega), if_neg (by rw [eh]; omega), if_neg (by rw [em]; exact c_160), if_pos (by omega), eh] at hf2
                           refine lp_head h7 h8 hr kP ih (eUp e (d + 1) _) (d + 1) _ _ _ _ _ _ _ (EI_push hI (by omega) (by omega)) (by omega) (by omega) (FA_push hE) ?_
                           rw [stk_push, hes]; exact hf2)
                        | (have hf2 := hf
                           rw [fnd, if_neg (by omega), if_neg (by omega), if_neg (by rw [eh]; omega), if_neg (by rw [em]; exact c_160), if_neg (by omega), eh, ← hes] at hf2
                           exact lp_head h7 h8 hr kP ih e d _ _ _ _ _ _ _ ⟨hI.1, hI.2.1, by omega⟩ (by omega) (by omega) hE hf2)
                    · refine mj_iinc d_Tag_placeOf_178 rfl (by decide) (nI (d + 1)) (nI_1 d) ?_
                      dsimp only [mSt1, mSt2, mKill, Nat.reduceAdd]
                      refine mj_iload_n d_Tag_placeOf_181 rfl ?_
                      refine mj_aload_n d_Tag_placeOf_182 rfl ?_
                      refine mj_get d_Tag_placeOf_183 fd_Tag_9 (gne h7 (by decide)) rfl ?_
                      refine mj_alen d_Tag_placeOf_186 (gself h8) ?_
                      refine mj_icmpltN d_Tag_placeOf_187 192 rfl (by omega) (fun c_187 => ?_) (fun c_187 => ?_)
                      · refine mj_aload_n d_Tag_placeOf_192 rfl ?_
                        refine mj_get d_Tag_placeOf_193 fd_Tag_9 (gne h7 (by decide)) rfl ?_
                        refine mj_iload_n d_Tag_placeOf_196 rfl ?_
                        refine mj_iload d_Tag_placeOf_197 rfl ?_
                        refine mj_iastN d_Tag_placeOf_199 (gself h8) (by omega) ?_
                        rw [List.set_set]
                        refine mj_iload d_Tag_placeOf_200 rfl ?_
                        refine mj_istore d_Tag_placeOf_202 (by decide) ?_
                        dsimp only [mSt1, mSt2, mKill, Nat.reduceAdd]
                        refine mj_iinc d_Tag_placeOf_204 rfl (by decide) (nI (q + 1)) (nI_1 q) ?_
                        dsimp only [mSt1, mSt2, mKill, Nat.reduceAdd]
                        refine mj_goto d_Tag_placeOf_207 18 rfl ?_
                        first
                          | (have hf2 := hf
                             rw [fnd, if_neg (by omega), if_neg (by omega), if_neg (by rw [eh]; omega), if_neg (by rw [em]; exact c_160), if_pos (by omega), eh] at hf2
                             refine lp_head h7 h8 hr kP ih (eUp e (d + 1) _) (d + 1) _ _ _ _ _ _ _ (EI_push hI (by omega) (by omega)) (by omega) (by omega) (FA_push hE) ?_
                             rw [stk_push, hes]; exact hf2)
                          | (have hf2 := hf
                             rw [fnd, if_neg (by omega), if_neg (by omega), if_neg (by rw [eh]; omega), if_neg (by rw [em]; exact c_160), if_neg (by omega), eh, ← hes] at hf2
                             exact lp_head h7 h8 hr kP ih e d _ _ _ _ _ _ _ ⟨hI.1, hI.2.1, by omega⟩ (by omega) (by omega) hE hf2)
                      · omega
                  · refine mj_iload d_Tag_placeOf_163 rfl ?_
                    refine mj_iret d_Tag_placeOf_165 rfl rfl (Nat.le_refl _) (Nat.le_refl _) ?_
                    rw [fnd, if_neg (by omega), if_neg (by omega), if_neg (by rw [eh]; omega), if_pos (by rw [em]; exact c_160), eh] at hf
                    cases hf
                    exact kP E
              · refine mj_iconst d_Tag_placeOf_132 (-1) (by decide) ?_
                refine mj_iret d_Tag_placeOf_133 rfl rfl (Nat.le_refl _) (Nat.le_refl _) ?_
                rw [fnd, if_neg (by omega), if_neg (by omega), if_pos (by rw [eh]; omega)] at hf
                cases hf
                exact kP E
            · refine mj_iconst d_Tag_placeOf_106 (-1) (by decide) ?_
              refine mj_iret d_Tag_placeOf_107 rfl rfl (Nat.le_refl _) (Nat.le_refl _) ?_
              rw [fnd, if_neg (by omega), if_pos (by omega)] at hf
              cases hf
              exact kP E
      · refine mj_iinc d_Tag_placeOf_49 rfl (by decide) (nI (d - 1)) (by obtain ⟨c, rfl⟩ : ∃ c, d = c + 1 := ⟨d - 1, by omega⟩; exact pk_m1 c) ?_
        dsimp only [mSt1, mSt2, mKill, Nat.reduceAdd]
        refine mj_goto d_Tag_placeOf_52 34 rfl ?_
        obtain ⟨c, rfl⟩ : ∃ c, d = c + 1 := ⟨d - 1, by omega⟩
        rw [stkOf, fnd, if_pos (by omega)] at hf
        exact ih e c p q E _ _ _ _ (EI_pop hI) (by omega) hqp hpl (FA_le hE (by omega)) hf
theorem s_Tag_placeOf {L : Nat} {xs : Nat → Int32} {Post : Option Value → mHeap → Prop} {h : mHeap} {l : List Nat} {fr E0 : Nat → Int32} {tag r : Int32} (h7 : h[7]? = some (.inr (1, [.ref 8]))) (h8 : h[8]? = some (cArr 32 E0)) (hr : RA h 3 4 32 l fr) (hb : ∀ b ∈ l, b < 256) (kP : ∀ E, Post (some (.int r)) (h.set 8 (cArr 32 E))) {n : Nat} (hf : fnd l tag n [l.length] 0 = some r) : mMet M_Tag_placeOf L xs (1, 21) 0 0 [.ref 7, .int tag, .ref 3] h Post := by
  refine mMet_of rfl (Nat.le_of_ble_eq_true rfl) ?_
  have h32 := hr.2.2.2.1
  refine mj_iconst d_Tag_placeOf_0 (nI 0) (by decide) ?_
  refine mj_istore_n d_Tag_placeOf_1 (by decide) ?_
  dsimp only [mSt1, mSt2, mKill, Nat.reduceAdd]
  refine mj_iconst d_Tag_placeOf_2 (nI 0) (by decide) ?_
  refine mj_istore d_Tag_placeOf_3 (by decide) ?_
  dsimp only [mSt1, mSt2, mKill, Nat.reduceAdd]
  refine mj_aload_n d_Tag_placeOf_5 rfl ?_
  refine mj_get d_Tag_placeOf_6 fd_Tag_9 h7 rfl ?_
  refine mj_iconst d_Tag_placeOf_9 (nI 0) (by decide) ?_
  refine mj_aload_n d_Tag_placeOf_10 rfl ?_
  refine mj_virtual (d' := (0, 0)) (mc := 0) (ms := 0) (As := []) d_Tag_placeOf_11 cw_Row_size q_368 q_204 q_205 (ci := 0) rfl hr.1 rfl rfl (mRoomB rfl) ?_
  refine s_Row_size hr ?_
  refine mj_iastN d_Tag_placeOf_14 h8 (by omega) ?_
  refine mj_iconst d_Tag_placeOf_15 (nI 0) (by decide) ?_
  refine mj_istore d_Tag_placeOf_16 (by decide) ?_
  dsimp only [mSt1, mSt2, mKill, Nat.reduceAdd]
  exact lp_head h7 h8 hr kP (lp_place h7 h8 hr hb kP n) (fun _ => l.length) 0 0 0 _ _ _ _ _ ⟨rfl, fun j hj => by omega, by omega⟩ (by omega) (by omega) (fun j hj => by rw [show j = 0 by omega, pk_us]) hf
