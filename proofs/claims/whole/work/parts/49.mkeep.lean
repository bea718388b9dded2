theorem lk_keep {L : Nat} {xs : Nat → Int32} {Post : Option Value → mHeap → Prop} {t r : List Nat} {cu tr an sg am pv : Nat} {fr fo : Nat → Int32} {pre : mHeap} {fkey fdig fnm frc frl fen fta frd fbl fmo fse fre fma fend frb0 : Nat → Int32} {cnt : Nat → Nat} {k : Nat} {v : Int32} (hk : k < 4) (hc3 : cnt k < 3) (hcn : FA 4 cnt frc) (ht : Rf t fr) (htl : t.length ≤ 30) (kk : ∀ (h : mHeap) (frb : Nat → Int32), MB h fkey fdig fnm (upd frc k (nI (cnt k + 1))) frl frb fen fta frd fbl fmo fse fre fma fend → h.take 24 = pre → (∀ j, j < t.length → frb (30 * (3 * k + cnt k) + j) = nI (t.getD j 0)) → (∀ n, n < 30 * (3 * k + cnt k) ∨ 30 * (3 * k + cnt k) + 30 ≤ n → frb n = frb0 n) → Post (some (.int (nI (cnt k + 1)))) (pP h (cMod cu tr an sg am pv 0 r.length) fr fo)) : ∀ (m i : Nat) (h : mHeap) (frb : Nat → Int32), i + m = t.length → MB h fkey fdig fnm frc frl frb fen fta frd fbl fmo fse fre fma fend → h.take 24 = pre → (∀ j, j < i → frb (30 * (3 * k + cnt k) + j) = nI (t.getD j 0)) → (∀ n, n < 30 * (3 * k + cnt k) ∨ 30 * (3 * k + cnt k) + 30 ≤ n → frb n = frb0 n) → mGo M_Mod_keep L xs (0, 0) 0 0 Post 0 0 69 [some (.ref 24), some (.int v), some (.int (nI k)), some (.int (nI (3 * k + cnt k))), some (.int (nI i))] [] (pP h (cMod cu tr an sg am pv t.length r.length) fr fo) := by
  intro m
  induction m with
  | zero =>
    intro i h frb hi hB hq h1 h2
    refine mj_iload d_Mod_keep_69 rfl ?_
    refine mj_aload_n d_Mod_keep_71 rfl ?_
    refine mj_get d_Mod_keep_72 fd_Mod_97 (pP_24 hB.1) rfl ?_
    refine mj_icmpgeN d_Mod_keep_75 103 rfl (by omega) (fun c_75 => ?_) (fun c_75 => ?_)
    · refine mj_aload_n d_Mod_keep_103 rfl ?_
      refine mj_iconst d_Mod_keep_104 (nI 0) (by decide) ?_
      refine mj_put d_Mod_keep_105 fd_Mod_97 ft_Mod_12 (pP_24 hB.1) (Nat.le_of_ble_eq_true rfl) rfl rfl ?_
      rw [pP_s24]
      dsimp only [List.set]
      refine mj_aload_n d_Mod_keep_108 rfl ?_
      refine mj_get d_Mod_keep_109 fd_Mod_19 (pP_24 hB.1) rfl ?_
      refine mj_iload_n d_Mod_keep_112 rfl ?_
      refine mj_dup2 d_Mod_keep_113 rfl rfl ?_
      refine mj_ialdN d_Mod_keep_114 (pP_get hB.2.2.2.2.2.2.1 (by decide) (by decide) (by decide)) (by omega) ?_
      rw [hcn _ hk]
      refine mj_iconst d_Mod_keep_115 (nI 1) (by decide) ?_
      refine mj_iadd d_Mod_keep_116 ?_
      rw [nI_add]
      refine mj_iastN d_Mod_keep_117 (pP_get hB.2.2.2.2.2.2.1 (by decide) (by decide) (by decide)) (by omega) ?_
      rw [pP_sk (by decide) (by decide) (by decide)]
      replace hB := MBs_28 (x := upd frc k (nI (cnt k + 1))) hB
      refine mj_aload_n d_Mod_keep_118 rfl ?_
      refine mj_get d_Mod_keep_119 fd_Mod_19 (pP_24 hB.1) rfl ?_
      refine mj_iload_n d_Mod_keep_122 rfl ?_
      refine mj_ialdN d_Mod_keep_123 (pP_get hB.2.2.2.2.2.2.1 (by decide) (by decide) (by decide)) (by omega) ?_
      rw [pk_us]
      refine mj_iret d_Mod_keep_124 rfl rfl (Nat.le_refl _) (Nat.le_refl _) ?_
      exact kk _ _ hB ((tk24 (by decide)).trans hq) (fun j hj => h1 j (by omega)) h2
    · omega
  | succ m ih =>
    intro i h frb hi hB hq h1 h2
    refine mj_iload d_Mod_keep_69 rfl ?_
    refine mj_aload_n d_Mod_keep_71 rfl ?_
    refine mj_get d_Mod_keep_72 fd_Mod_97 (pP_24 hB.1) rfl ?_
    refine mj_icmpgeN d_Mod_keep_75 103 rfl (by omega) (fun c_75 => ?_) (fun c_75 => ?_)
    · omega
    · refine mj_aload_n d_Mod_keep_78 rfl ?_
      refine mj_get d_Mod_keep_79 fd_Mod_25 (pP_24 hB.1) rfl ?_
      refine mj_bipush d_Mod_keep_82 (nI 30) (by decide) ?_
      refine mj_iload_n d_Mod_keep_84 rfl ?_
      refine mj_imul d_Mod_keep_85 ?_
      rw [pk_mul]
      refine mj_iload d_Mod_keep_86 rfl ?_
      refine mj_iadd d_Mod_keep_88 ?_
      rw [nI_add]
      refine mj_aload_n d_Mod_keep_89 rfl ?_
      refine mj_get d_Mod_keep_90 fd_Mod_32 (pP_24 hB.1) rfl ?_
      refine mj_iload d_Mod_keep_93 rfl ?_
      refine mj_ialdN d_Mod_keep_95 (pP_31 hB.2.1) (by omega) ?_
      rw [ht _ (by omega)]
      refine mj_iastN d_Mod_keep_96 (pP_get hB.2.2.2.2.2.2.2.2.1 (by decide) (by decide) (by decide)) (by omega) ?_
      rw [pP_sk (by decide) (by decide) (by decide)]
      refine mj_iinc d_Mod_keep_97 rfl (by decide) (nI (i + 1)) (nI_1 i) ?_
      dsimp only [mSt1, mSt2, mKill, Nat.reduceAdd]
      refine mj_goto d_Mod_keep_100 69 rfl ?_
      refine ih (i + 1) _ _ (by omega) (MBs_30 hB) ((tk24 (by decide)).trans hq) (fun j hj => ?_) (fun n hn => ?_)
      · by_cases e : j = i
        · subst e; rw [pk_us]
        · rw [pk_un (by omega), h1 j (by omega)]
      · rw [pk_un (by omega), h2 n hn]
theorem s_Mod_keep {L : Nat} {xs : Nat → Int32} {Post : Option Value → mHeap → Prop} {fen : Nat → Int32} {t r nm : List Nat} {cnt : Nat → Nat} {rc : Nat → List Nat} {rk : Nat → Nat} {co cu tr an sg am pv : Nat} {pre h : mHeap} {v : Int32} (hA : AI t r nm cnt rc rk co cu tr an sg am pv) (hW : MW fen t r nm cnt rc rk co cu tr an sg am pv pre h) (kF : (¬ ∃ k : Nat, k < 4 ∧ v = nI (k + 1) ∧ cnt k < 3 ∧ 1 ≤ t.length ∧ t.length ≤ 30) → ∀ h', MW fen t r nm cnt rc rk co cu tr an sg am pv pre h' → Post (some (.int (-1))) h') (kT : ∀ k : Nat, k < 4 → v = nI (k + 1) → cnt k < 3 → (1 ≤ t.length ∧ t.length ≤ 30) → ∀ h', MW fen ([]) r nm (va_up cnt k (cnt k + 1)) (va_up rc (3 * k + cnt k) t) rk co cu tr an sg am pv pre h' → Post (some (.int (nI (cnt k + 1)))) h') : mMet M_Mod_keep L xs (0, 0) 0 0 [.ref 24, .int v] h Post := by
  obtain ⟨h0, fkey, fdig, fnm, frc, frl, frb, fta, frd, fbl, fmo, fse, fre, fma, fend, fr, fo, ⟨ht, hr, hnm, hdg, hF, hta, hrd⟩, hB, hq, rfl⟩ := hW
  refine mMet_of rfl (Nat.le_of_ble_eq_true rfl) ?_
  refine mj_iload_n d_Mod_keep_0 rfl ?_
  refine mj_iconst d_Mod_keep_1 (nI 1) (by decide) ?_
  refine mj_icmplt d_Mod_keep_2 39 rfl (fun c_2 => ?_) (fun c_2 => ?_)
  · refine mj_iconst d_Mod_keep_39 (-1) (by decide) ?_
    refine mj_iret d_Mod_keep_40 rfl rfl (Nat.le_refl _) (Nat.le_refl _) ?_
    refine kF (fun z => ?_) _ ⟨h0, fkey, fdig, fnm, frc, frl, frb, fta, frd, fbl, fmo, fse, fre, fma, fend, fr, fo, ⟨ht, hr, hnm, hdg, hF, hta, hrd⟩, hB, hq, rfl⟩
    obtain ⟨k2, z1, z2, z3, z4, z5⟩ := z
    first
      | omega
      | (have e := nI_inj (by omega) (by omega) z2; obtain rfl : k = k2 := by omega
         omega)
      | (rw [z2, nI_ltI (by omega) (by decide)] at c_2; omega)
      | (rw [z2, nI_ltI (by decide) (by omega)] at c_7; omega)
  · refine mj_iload_n d_Mod_keep_5 rfl ?_
    refine mj_iconst d_Mod_keep_6 (nI 4) (by decide) ?_
    refine mj_icmpgt d_Mod_keep_7 39 rfl (fun c_7 => ?_) (fun c_7 => ?_)
    · refine mj_iconst d_Mod_keep_39 (-1) (by decide) ?_
      refine mj_iret d_Mod_keep_40 rfl rfl (Nat.le_refl _) (Nat.le_refl _) ?_
      refine kF (fun z => ?_) _ ⟨h0, fkey, fdig, fnm, frc, frl, frb, fta, frd, fbl, fmo, fse, fre, fma, fend, fr, fo, ⟨ht, hr, hnm, hdg, hF, hta, hrd⟩, hB, hq, rfl⟩
      obtain ⟨k2, z1, z2, z3, z4, z5⟩ := z
      first
        | omega
        | (have e := nI_inj (by omega) (by omega) z2; obtain rfl : k = k2 := by omega
           omega)
        | (rw [z2, nI_ltI (by omega) (by decide)] at c_2; omega)
        | (rw [z2, nI_ltI (by decide) (by omega)] at c_7; omega)
    · obtain ⟨k, hk, rfl⟩ := v14 c_2 c_7
      have hc3 := hF.2.1 k hk
      have htl := hA.1.2
      refine mj_aload_n d_Mod_keep_10 rfl ?_
      refine mj_get d_Mod_keep_11 fd_Mod_19 (pP_24 hB.1) rfl ?_
      refine mj_iload_n d_Mod_keep_14 rfl ?_
      refine mj_iconst d_Mod_keep_15 (nI 1) (by decide) ?_
      refine mj_isub d_Mod_keep_16 ?_
      rw [pk_sub (by omega), Nat.add_sub_cancel]
      refine mj_ialdN d_Mod_keep_17 (pP_get hB.2.2.2.2.2.2.1 (by decide) (by decide) (by decide)) (by omega) ?_
      rw [hF.1 _ hk]
      refine mj_iconst d_Mod_keep_18 (nI 3) (by decide) ?_
      refine mj_icmpeqN d_Mod_keep_19 39 rfl (by omega) (fun c_19 => ?_) (fun c_19 => ?_)
      · refine mj_iconst d_Mod_keep_39 (-1) (by decide) ?_
        refine mj_iret d_Mod_keep_40 rfl rfl (Nat.le_refl _) (Nat.le_refl _) ?_
        refine kF (fun z => ?_) _ ⟨h0, fkey, fdig, fnm, frc, frl, frb, fta, frd, fbl, fmo, fse, fre, fma, fend, fr, fo, ⟨ht, hr, hnm, hdg, hF, hta, hrd⟩, hB, hq, rfl⟩
        obtain ⟨k2, z1, z2, z3, z4, z5⟩ := z
        first
          | omega
          | (have e := nI_inj (by omega) (by omega) z2; obtain rfl : k = k2 := by omega
             omega)
          | (rw [z2, nI_ltI (by omega) (by decide)] at c_2; omega)
          | (rw [z2, nI_ltI (by decide) (by omega)] at c_7; omega)
      · refine mj_aload_n d_Mod_keep_22 rfl ?_
        refine mj_get d_Mod_keep_23 fd_Mod_97 (pP_24 hB.1) rfl ?_
        refine mj_iconst d_Mod_keep_26 (nI 1) (by decide) ?_
        refine mj_icmpltN d_Mod_keep_27 39 rfl (by omega) (fun c_27 => ?_) (fun c_27 => ?_)
        · refine mj_iconst d_Mod_keep_39 (-1) (by decide) ?_
          refine mj_iret d_Mod_keep_40 rfl rfl (Nat.le_refl _) (Nat.le_refl _) ?_
          refine kF (fun z => ?_) _ ⟨h0, fkey, fdig, fnm, frc, frl, frb, fta, frd, fbl, fmo, fse, fre, fma, fend, fr, fo, ⟨ht, hr, hnm, hdg, hF, hta, hrd⟩, hB, hq, rfl⟩
          obtain ⟨k2, z1, z2, z3, z4, z5⟩ := z
          first
            | omega
            | (have e := nI_inj (by omega) (by omega) z2; obtain rfl : k = k2 := by omega
               omega)
            | (rw [z2, nI_ltI (by omega) (by decide)] at c_2; omega)
            | (rw [z2, nI_ltI (by decide) (by omega)] at c_7; omega)
        · refine mj_aload_n d_Mod_keep_30 rfl ?_
          refine mj_get d_Mod_keep_31 fd_Mod_97 (pP_24 hB.1) rfl ?_
          refine mj_bipush d_Mod_keep_34 (nI 30) (by decide) ?_
          refine mj_icmpleN d_Mod_keep_36 41 rfl (by omega) (fun c_36 => ?_) (fun c_36 => ?_)
          · refine mj_iload_n d_Mod_keep_41 rfl ?_
            refine mj_iconst d_Mod_keep_42 (nI 1) (by decide) ?_
            refine mj_isub d_Mod_keep_43 ?_
            rw [pk_sub (by omega), Nat.add_sub_cancel]
            refine mj_istore_n d_Mod_keep_44 (by decide) ?_
            dsimp only [mSt1, mSt2, mKill, Nat.reduceAdd]
            refine mj_iconst d_Mod_keep_45 (nI 3) (by decide) ?_
            refine mj_iload_n d_Mod_keep_46 rfl ?_
            refine mj_imul d_Mod_keep_47 ?_
            rw [pk_mul]
            refine mj_aload_n d_Mod_keep_48 rfl ?_
            refine mj_get d_Mod_keep_49 fd_Mod_19 (pP_24 hB.1) rfl ?_
            refine mj_iload_n d_Mod_keep_52 rfl ?_
            refine mj_ialdN d_Mod_keep_53 (pP_get hB.2.2.2.2.2.2.1 (by decide) (by decide) (by decide)) (by omega) ?_
            rw [hF.1 _ hk]
            refine mj_iadd d_Mod_keep_54 ?_
            rw [nI_add]
            refine mj_istore_n d_Mod_keep_55 (by decide) ?_
            dsimp only [mSt1, mSt2, mKill, Nat.reduceAdd]
            refine mj_aload_n d_Mod_keep_56 rfl ?_
            refine mj_get d_Mod_keep_57 fd_Mod_22 (pP_24 hB.1) rfl ?_
            refine mj_iload_n d_Mod_keep_60 rfl ?_
            refine mj_aload_n d_Mod_keep_61 rfl ?_
            refine mj_get d_Mod_keep_62 fd_Mod_97 (pP_24 hB.1) rfl ?_
            refine mj_iastN d_Mod_keep_65 (pP_get hB.2.2.2.2.2.2.2.1 (by decide) (by decide) (by decide)) (by omega) ?_
            rw [pP_sk (by decide) (by decide) (by decide)]
            replace hB := MBs_29 (x := upd frl (3 * k + cnt k) (nI t.length)) hB
            refine mj_iconst d_Mod_keep_66 (nI 0) (by decide) ?_
            refine mj_istore d_Mod_keep_67 (by decide) ?_
            dsimp only [mSt1, mSt2, mKill, Nat.reduceAdd]
            refine lk_keep (frb0 := frb) hk (by omega) hF.1 ht (by omega) (fun h1 g hB1 hq1 e1 e2 => ?_) t.length 0 _ _ (by omega) hB ((tk24 (by decide)).trans hq) (fun j hj => by omega) (fun n hn => rfl)
            exact kT k hk rfl (by omega) (by omega) _ ⟨h1, fkey, fdig, fnm, _, _, g, fta, frd, fbl, fmo, fse, fre, fma, fend, fr, fo, ⟨(fun j hj => by cases hj), hr, hnm, hdg, (FR_keep hF hk (by omega) (by omega) hA.1.1 e1 e2), hta, hrd⟩, hB1, hq1, rfl⟩
          · refine mj_iconst d_Mod_keep_39 (-1) (by decide) ?_
            refine mj_iret d_Mod_keep_40 rfl rfl (Nat.le_refl _) (Nat.le_refl _) ?_
            refine kF (fun z => ?_) _ ⟨h0, fkey, fdig, fnm, frc, frl, frb, fta, frd, fbl, fmo, fse, fre, fma, fend, fr, fo, ⟨ht, hr, hnm, hdg, hF, hta, hrd⟩, hB, hq, rfl⟩
            obtain ⟨k2, z1, z2, z3, z4, z5⟩ := z
            first
              | omega
              | (have e := nI_inj (by omega) (by omega) z2; obtain rfl : k = k2 := by omega
                 omega)
              | (rw [z2, nI_ltI (by omega) (by decide)] at c_2; omega)
              | (rw [z2, nI_ltI (by decide) (by omega)] at c_7; omega)
theorem lk_key {L : Nat} {xs : Nat → Int32} {Post : Option Value → mHeap → Prop} {t r : List Nat} {cu tr an sg am pv : Nat} {fr fo : Nat → Int32} {pre : mHeap} {fdig fnm frc frl frb fen fta frd fbl fmo fse fre fma fend : Nat → Int32} {a b : Int64} (hta : FA 256 sbN fta) (kk : ∀ (h : mHeap) (fkey frd2 : Nat → Int32), MB h fkey fdig fnm frc frl frb fen fta frd2 fbl fmo fse fre fma fend → h.take 24 = pre → FA 176 (rkF (kbF a b)) frd2 → Post none (pP h (cMod cu tr an sg am pv t.length r.length) fr fo)) : ∀ (m i : Nat) (h : mHeap) (fkey : Nat → Int32), i + m = 8 → MB h fkey fdig fnm frc frl frb fen fta frd fbl fmo fse fre fma fend → h.take 24 = pre → KH i (kbF a b) fkey → mGo M_Mod_key L xs (2, 49) 0 0 Post 0 0 3 [some (.ref 24), some (.long a), none, some (.long b), none, some (.int (nI i))] [] (pP h (cMod cu tr an sg am pv t.length r.length) fr fo) := by
  intro m
  induction m with
  | zero =>
    intro i h fkey hi hB hq hf
    refine mj_iload d_Mod_key_3 rfl ?_
    refine mj_bipush d_Mod_key_5 (nI 8) (by decide) ?_
    refine mj_icmpgeN d_Mod_key_7 63 rfl (by omega) (fun c_7 => ?_) (fun c_7 => ?_)
    · refine mj_aload_n d_Mod_key_63 rfl ?_
      refine mj_virtual (d' := (1, 24)) (mc := 0) (ms := 0) (As := []) d_Mod_key_64 cw_Mod_expand q_484 q_486 qs_Mod_expand (ci := 6) rfl (pP_24 hB.1) rfl rfl (mRoomB rfl) ?_
      obtain rfl : i = 8 := by omega
      refine s_Mod_expand (pP_24 hB.1) (pP_get hB.2.2.2.1 (by decide) (by decide) (by decide)) (pP_get hB.2.2.2.2.2.2.2.2.2.2.1 (by decide) (by decide) (by decide)) (pP_get hB.2.2.2.2.2.2.2.2.2.2.2.1 (by decide) (by decide) (by decide)) hta (kbF_lt a b) (KH_e hf) (fun f hf2 => ?_)
      rw [pP_sk (by decide) (by decide) (by decide)]
      replace hB := MBs_35 (x := f) hB
      refine mj_vret d_Mod_key_67 rfl (Nat.le_refl _) (Nat.le_refl _) ?_
      exact kk _ _ f hB ((tk24 (by decide)).trans hq) hf2
    · omega
  | succ m ih =>
    intro i h fkey hi hB hq hf
    refine mj_iload d_Mod_key_3 rfl ?_
    refine mj_bipush d_Mod_key_5 (nI 8) (by decide) ?_
    refine mj_icmpgeN d_Mod_key_7 63 rfl (by omega) (fun c_7 => ?_) (fun c_7 => ?_)
    · omega
    · refine mj_aload_n d_Mod_key_10 rfl ?_
      refine mj_get d_Mod_key_11 fd_Mod_7 (pP_24 hB.1) rfl ?_
      refine mj_iload d_Mod_key_14 rfl ?_
      refine mj_lload_n d_Mod_key_16 rfl ?_
      refine mj_bipush d_Mod_key_17 (nI 56) (by decide) ?_
      refine mj_bipush d_Mod_key_19 (nI 8) (by decide) ?_
      refine mj_iload d_Mod_key_21 rfl ?_
      refine mj_imul d_Mod_key_23 ?_
      refine mj_isub d_Mod_key_24 ?_
      refine mj_lshr d_Mod_key_25 ?_
      refine mj_ldc2 d_Mod_key_26 255 q_658 ?_
      refine mj_land d_Mod_key_29 ?_
      refine mj_l2i d_Mod_key_30 ?_
      rw [l_b2 _ _ (7 - i) (sh56 i (by omega)) (by omega)]
      refine mj_iastN d_Mod_key_31 (pP_get hB.2.2.2.1 (by decide) (by decide) (by decide)) (by omega) ?_
      rw [pP_sk (by decide) (by decide) (by decide)]
      replace hB := MBs_25 (x := upd fkey i (nI (byteN a (7 - i)))) hB
      refine mj_aload_n d_Mod_key_32 rfl ?_
      refine mj_get d_Mod_key_33 fd_Mod_7 (pP_24 hB.1) rfl ?_
      refine mj_bipush d_Mod_key_36 (nI 8) (by decide) ?_
      refine mj_iload d_Mod_key_38 rfl ?_
      refine mj_iadd d_Mod_key_40 ?_
      rw [nI_add]
      refine mj_lload_n d_Mod_key_41 rfl ?_
      refine mj_bipush d_Mod_key_42 (nI 56) (by decide) ?_
      refine mj_bipush d_Mod_key_44 (nI 8) (by decide) ?_
      refine mj_iload d_Mod_key_46 rfl ?_
      refine mj_imul d_Mod_key_48 ?_
      refine mj_isub d_Mod_key_49 ?_
      refine mj_lshr d_Mod_key_50 ?_
      refine mj_ldc2 d_Mod_key_51 255 q_658 ?_
      refine mj_land d_Mod_key_54 ?_
      refine mj_l2i d_Mod_key_55 ?_
      rw [l_b2 _ _ (7 - i) (sh56 i (by omega)) (by omega)]
      refine mj_iastN d_Mod_key_56 (pP_get hB.2.2.2.1 (by decide) (by decide) (by decide)) (by omega) ?_
      rw [pP_sk (by decide) (by decide) (by decide)]
      replace hB := MBs_25 (x := upd (upd fkey i (nI (byteN a (7 - i)))) (8 + i) (nI (byteN b (7 - i)))) hB
      refine mj_iinc d_Mod_key_57 rfl (by decide) (nI (i + 1)) (nI_1 i) ?_
      dsimp only [mSt1, mSt2, mKill, Nat.reduceAdd]
      refine mj_goto d_Mod_key_60 3 rfl ?_
      have e := KH_s (show i < 8 by omega) hf
      rw [show kbF a b i = byteN a (7 - i) by unfold kbF; rw [if_pos (by omega)], show kbF a b (8 + i) = byteN b (7 - i) by unfold kbF; rw [if_neg (by omega), show 15 - (8 + i) = 7 - i by omega]] at e
      exact ih (i + 1) _ _ (by omega) hB (((tk24 (by decide)).trans (tk24 (by decide))).trans hq) e
theorem s_Mod_key {L : Nat} {xs : Nat → Int32} {Post : Option Value → mHeap → Prop} {fen : Nat → Int32} {t r nm : List Nat} {cnt : Nat → Nat} {rc : Nat → List Nat} {rk : Nat → Nat} {co cu tr an sg am pv : Nat} {pre h : mHeap} {a b : Int64} (hA : AI t r nm cnt rc rk co cu tr an sg am pv) (hW : MW fen t r nm cnt rc rk co cu tr an sg am pv pre h) (kP : ∀ h', MW fen t r nm cnt rc (rkF (kbF a b)) co cu tr an sg am pv pre h' → Post none h') : mMet M_Mod_key L xs (2, 49) 0 0 [.ref 24, .long a, .long b] h Post := by
  obtain ⟨h0, fkey, fdig, fnm, frc, frl, frb, fta, frd, fbl, fmo, fse, fre, fma, fend, fr, fo, ⟨ht, hr, hnm, hdg, hF, hta, hrd⟩, hB, hq, rfl⟩ := hW
  refine mMet_of rfl (Nat.le_of_ble_eq_true rfl) ?_
  refine mj_iconst d_Mod_key_0 (nI 0) (by decide) ?_
  refine mj_istore d_Mod_key_1 (by decide) ?_
  dsimp only [mSt1, mSt2, mKill, Nat.reduceAdd]
  refine lk_key hta (fun h1 fk2 f hB1 hq1 hf => ?_) 8 0 _ _ (by omega) hB hq (fun j hj => by omega)
  exact kP _ ⟨h1, fk2, fdig, fnm, frc, frl, frb, fta, f, fbl, fmo, fse, fre, fma, fend, fr, fo, ⟨ht, hr, hnm, hdg, hF, hta, hf⟩, hB1, hq1, rfl⟩
theorem seal_pP2 {h : mHeap} {X : mCell} {fr fo m t b c : Nat → Int32} : (kP (pP h X fr fo) m t b).set 39 (cArr 16 c) = pP ((((h.set 40 (cArr 16 m)).set 37 (cArr 16 t)).set 36 (cArr 16 b)).set 39 (cArr 16 c)) X fr fo := by
  unfold kP eP
  rw [pP_sk (by decide) (by decide) (by decide), pP_sk (by decide) (by decide) (by decide), pP_sk (by decide) (by decide) (by decide), pP_sk (by decide) (by decide) (by decide)]
theorem sB2_tk {h : mHeap} {m t b c : mCell} : ((((h.set 40 m).set 37 t).set 36 b).set 39 c).take 24 = h.take 24 := by
  rw [tk24 (by decide), tk24 (by decide), tk24 (by decide), tk24 (by decide)]
theorem lk_seal {L : Nat} {xs : Nat → Int32} {Post : Option Value → mHeap → Prop} {t r : List Nat} {cu tr an sg am pv : Nat} {fr fo : Nat → Int32} {pre : mHeap} {fkey fdig fnm frc frl frb fen fta frd fbl fmo fre fma fend : Nat → Int32} {rk : Nat → Nat} {n : Nat} (hn : n < 16) (hta : FA 256 sbN fta) (hrd : FA 176 rk frd) (hbk : Bt 176 rk) (ht : Rf t fr) (hbt : Bb t) (htl : t.length ≤ 40) (kk : ∀ (h : mHeap) (fse m t2 b c : Nat → Int32), MB h fkey fdig fnm frc frl frb fen fta frd b t2 fse c m fend → h.take 24 = pre → Post (some (.int (nI (sealF rk t n)))) (pP h (cMod cu tr an sg am pv t.length r.length) fr fo)) : ∀ (q i : Nat) (h : mHeap) (fse : Nat → Int32), i + q = t.length → MB h fkey fdig fnm frc frl frb fen fta frd fbl fmo fse fre fma fend → h.take 24 = pre → (∀ j, j < i → fse j = nI (t.getD j 0)) → mGo M_Mod_seal L xs (3, 75) 0 0 Post 0 0 14 [some (.ref 24), some (.int (nI n)), some (.int (nI i))] [] (pP h (cMod cu tr an sg am pv t.length r.length) fr fo) := by
  intro q
  induction q with
  | zero =>
    intro i h fse hi hB hq hf
    refine mj_iload_n d_Mod_seal_14 rfl ?_
    refine mj_aload_n d_Mod_seal_15 rfl ?_
    refine mj_get d_Mod_seal_16 fd_Mod_97 (pP_24 hB.1) rfl ?_
    refine mj_icmpgeN d_Mod_seal_19 40 rfl (by omega) (fun c_19 => ?_) (fun c_19 => ?_)
    · refine mj_aload_n d_Mod_seal_40 rfl ?_
      refine mj_aload_n d_Mod_seal_41 rfl ?_
      refine mj_get d_Mod_seal_42 fd_Mod_97 (pP_24 hB.1) rfl ?_
      refine mj_virtual (d' := (2, 48)) (mc := 0) (ms := 0) (As := [_]) d_Mod_seal_45 cw_Mod_makeSeal q_659 q_661 qs_Mod_makeSeal (ci := 6) rfl (pP_24 hB.1) rfl rfl (mRoomB rfl) ?_
      refine s_Mod_makeSeal (pP_24 hB.1) (pP_get hB.2.2.2.2.2.2.2.2.2.2.1 (by decide) (by decide) (by decide)) (pP_get hB.2.2.2.2.2.2.2.2.2.2.2.1 (by decide) (by decide) (by decide)) (pP_get hB.2.2.2.2.2.2.2.2.2.2.2.2.1 (by decide) (by decide) (by decide)) (pP_get hB.2.2.2.2.2.2.2.2.2.2.2.2.2.1 (by decide) (by decide) (by decide)) (pP_get hB.2.2.2.2.2.2.2.2.2.2.2.2.2.2.1 (by decide) (by decide) (by decide)) (pP_get hB.2.2.2.2.2.2.2.2.2.2.2.2.2.2.2.1 (by decide) (by decide) (by decide)) (pP_get hB.2.2.2.2.2.2.2.2.2.2.2.2.2.2.2.2.1 (by decide) (by decide) (by decide)) hta hrd hbk (fun j hj => hf j (by omega)) hbt htl (fun m t2 b c hs => ?_)
      rw [seal_pP2]
      have hB1 := MBs_39 (x := c) (MBs_36 (x := b) (MBs_37 (x := t2) (MBs_40 (x := m) hB)))
      have hq1 := (sB2_tk (m := cArr 16 m) (t := cArr 16 t2) (b := cArr 16 b) (c := cArr 16 c)).trans hq
      generalize ((((h.set 40 (cArr 16 m)).set 37 (cArr 16 t2)).set 36 (cArr 16 b)).set 39 (cArr 16 c)) = h1 at hB1 hq1 ⊢
      refine mj_aload_n d_Mod_seal_48 rfl ?_
      refine mj_get d_Mod_seal_49 fd_Mod_56 (pP_24 hB1.1) rfl ?_
      refine mj_iload_n d_Mod_seal_52 rfl ?_
      refine mj_ialdN d_Mod_seal_53 (pP_get hB1.2.2.2.2.2.2.2.2.2.2.2.2.2.2.2.1 (by decide) (by decide) (by decide)) (by omega) ?_
      rw [hs n hn]
      refine mj_iret d_Mod_seal_54 rfl rfl (Nat.le_refl _) (Nat.le_refl _) ?_
      exact kk _ _ _ _ _ _ hB1 hq1
    · omega
  | succ q ih =>
    intro i h fse hi hB hq hf
    refine mj_iload_n d_Mod_seal_14 rfl ?_
    refine mj_aload_n d_Mod_seal_15 rfl ?_
    refine mj_get d_Mod_seal_16 fd_Mod_97 (pP_24 hB.1) rfl ?_
    refine mj_icmpgeN d_Mod_seal_19 40 rfl (by omega) (fun c_19 => ?_) (fun c_19 => ?_)
    · omega
    · refine mj_aload_n d_Mod_seal_22 rfl ?_
      refine mj_get d_Mod_seal_23 fd_Mod_53 (pP_24 hB.1) rfl ?_
      refine mj_iload_n d_Mod_seal_26 rfl ?_
      refine mj_aload_n d_Mod_seal_27 rfl ?_
      refine mj_get d_Mod_seal_28 fd_Mod_32 (pP_24 hB.1) rfl ?_
      refine mj_iload_n d_Mod_seal_31 rfl ?_
      refine mj_ialdN d_Mod_seal_32 (pP_31 hB.2.1) (by omega) ?_
      rw [ht _ (by omega)]
      refine mj_iastN d_Mod_seal_33 (pP_get hB.2.2.2.2.2.2.2.2.2.2.2.2.2.2.1 (by decide) (by decide) (by decide)) (by omega) ?_
      rw [pP_sk (by decide) (by decide) (by decide)]
      refine mj_iinc d_Mod_seal_34 rfl (by decide) (nI (i + 1)) (nI_1 i) ?_
      dsimp only [mSt1, mSt2, mKill, Nat.reduceAdd]
      refine mj_goto d_Mod_seal_37 14 rfl ?_
      refine ih (i + 1) _ _ (by omega) (MBs_38 hB) ((tk24 (by decide)).trans hq) (fun j hj => ?_)
      by_cases e : j = i
      · subst e; rw [pk_us]
      · rw [pk_un (by omega), hf j (by omega)]
theorem s_Mod_seal {L : Nat} {xs : Nat → Int32} {Post : Option Value → mHeap → Prop} {fen : Nat → Int32} {t r nm : List Nat} {cnt : Nat → Nat} {rc : Nat → List Nat} {rk : Nat → Nat} {co cu tr an sg am pv : Nat} {pre h : mHeap} {v : Int32} (hA : AI t r nm cnt rc rk co cu tr an sg am pv) (hW : MW fen t r nm cnt rc rk co cu tr an sg am pv pre h) (kF : (¬ ∃ n : Nat, n < 16 ∧ v = nI n) → ∀ h', MW fen t r nm cnt rc rk co cu tr an sg am pv pre h' → Post (some (.int (-1))) h') (kT : ∀ n : Nat, n < 16 → v = nI n → ∀ h', MW fen t r nm cnt rc rk co cu tr an sg am pv pre h' → Post (some (.int (nI (sealF rk t n)))) h') : mMet M_Mod_seal L xs (3, 75) 0 0 [.ref 24, .int v] h Post := by
  obtain ⟨h0, fkey, fdig, fnm, frc, frl, frb, fta, frd, fbl, fmo, fse, fre, fma, fend, fr, fo, ⟨ht, hr, hnm, hdg, hF, hta, hrd⟩, hB, hq, rfl⟩ := hW
  refine mMet_of rfl (Nat.le_of_ble_eq_true rfl) ?_
  refine mj_iload_n d_Mod_seal_0 rfl ?_
  refine mj_iflt d_Mod_seal_1 10 rfl (fun c_1 => ?_) (fun c_1 => ?_)
  · refine mj_iconst d_Mod_seal_10 (-1) (by decide) ?_
    refine mj_iret d_Mod_seal_11 rfl rfl (Nat.le_refl _) (Nat.le_refl _) ?_
    refine kF (fun z => ?_) _ ⟨h0, fkey, fdig, fnm, frc, frl, frb, fta, frd, fbl, fmo, fse, fre, fma, fend, fr, fo, ⟨ht, hr, hnm, hdg, hF, hta, hrd⟩, hB, hq, rfl⟩
    obtain ⟨n, z1, z2⟩ := z
    first
      | exact nI_pos (n := n) (by omega) (by rw [← z2]; exact c_1)
      | exact c_7 (by rw [z2]; exact (nI_leI (by omega) (by decide)).mpr (by omega))
  · refine mj_iload_n d_Mod_seal_4 rfl ?_
    refine mj_bipush d_Mod_seal_5 (nI 15) (by decide) ?_
    refine mj_icmple d_Mod_seal_7 12 rfl (fun c_7 => ?_) (fun c_7 => ?_)
    · obtain ⟨n, hn, rfl⟩ := nI_of c_1
      have hn9 := (nI_leI hn (by decide)).mp c_7
      refine mj_iconst d_Mod_seal_12 (nI 0) (by decide) ?_
      refine mj_istore_n d_Mod_seal_13 (by decide) ?_
      dsimp only [mSt1, mSt2, mKill, Nat.reduceAdd]
      refine lk_seal (show n < 16 by omega) hta hrd hA.2.2.2.2.1 ht hA.1.1 hA.1.2 (fun h1 a m t2 b c hB1 hq1 => ?_) t.length 0 _ _ (by omega) hB hq (fun j hj => by omega)
      exact kT n (by omega) rfl _ ⟨h1, fkey, fdig, fnm, frc, frl, frb, fta, frd, b, t2, a, c, m, fend, fr, fo, ⟨ht, hr, hnm, hdg, hF, hta, hrd⟩, hB1, hq1, rfl⟩
    · refine mj_iconst d_Mod_seal_10 (-1) (by decide) ?_
      refine mj_iret d_Mod_seal_11 rfl rfl (Nat.le_refl _) (Nat.le_refl _) ?_
      refine kF (fun z => ?_) _ ⟨h0, fkey, fdig, fnm, frc, frl, frb, fta, frd, fbl, fmo, fse, fre, fma, fend, fr, fo, ⟨ht, hr, hnm, hdg, hF, hta, hrd⟩, hB, hq, rfl⟩
      obtain ⟨n, z1, z2⟩ := z
      first
        | exact nI_pos (n := n) (by omega) (by rw [← z2]; exact c_1)
        | exact c_7 (by rw [z2]; exact (nI_leI (by omega) (by decide)).mpr (by omega))
theorem s_Mod_isAmount {L : Nat} {xs : Nat → Int32} {Post : Option Value → mHeap → Prop} {h : mHeap} {a : Int64} (kP : Post (some (.int (nI (if amtOk a then 1 else 0)))) h) : mMet M_Mod_isAmount L xs (0, 0) 0 0 [.long a] h Post := by
  refine mMet_of rfl (Nat.le_of_ble_eq_true rfl) ?_
  refine mj_lload_n d_Mod_isAmount_0 rfl ?_
  refine mj_lconst d_Mod_isAmount_1 0 (by decide) ?_
  refine mj_lcmp d_Mod_isAmount_2 ?_
  refine mj_iflt d_Mod_isAmount_3 18 rfl (fun c_3 => ?_) (fun c_3 => ?_)
  · refine mj_iconst d_Mod_isAmount_18 (nI 0) (by decide) ?_
    refine mj_iret d_Mod_isAmount_19 rfl (by decide) (Nat.le_refl _) (Nat.le_refl _) ?_
    first
      | (rw [if0 (fun z => (l_nlt.mpr z.1) (cmp_lt.mp c_3))] at kP; exact kP)
      | (rw [if0 (fun z => (l_nlt.mpr z.2) (cmp_gt.mp c_11))] at kP; exact kP)
      | (rw [if1 ⟨l_nlt.mp (fun z => c_3 (cmp_lt.mpr z)), l_nlt.mp (fun z => c_11 (cmp_gt.mpr z))⟩] at kP; exact kP)
  · refine mj_lload_n d_Mod_isAmount_6 rfl ?_
    refine mj_ldc2 d_Mod_isAmount_7 281474976710655 q_718 ?_
    refine mj_lcmp d_Mod_isAmount_10 ?_
    refine mj_ifgt d_Mod_isAmount_11 18 rfl (fun c_11 => ?_) (fun c_11 => ?_)
    · refine mj_iconst d_Mod_isAmount_18 (nI 0) (by decide) ?_
      refine mj_iret d_Mod_isAmount_19 rfl (by decide) (Nat.le_refl _) (Nat.le_refl _) ?_
      first
        | (rw [if0 (fun z => (l_nlt.mpr z.1) (cmp_lt.mp c_3))] at kP; exact kP)
        | (rw [if0 (fun z => (l_nlt.mpr z.2) (cmp_gt.mp c_11))] at kP; exact kP)
        | (rw [if1 ⟨l_nlt.mp (fun z => c_3 (cmp_lt.mpr z)), l_nlt.mp (fun z => c_11 (cmp_gt.mpr z))⟩] at kP; exact kP)
    · refine mj_iconst d_Mod_isAmount_14 (nI 1) (by decide) ?_
      refine mj_goto d_Mod_isAmount_15 19 rfl ?_
      refine mj_iret d_Mod_isAmount_19 rfl (by decide) (Nat.le_refl _) (Nat.le_refl _) ?_
      first
        | (rw [if0 (fun z => (l_nlt.mpr z.1) (cmp_lt.mp c_3))] at kP; exact kP)
        | (rw [if0 (fun z => (l_nlt.mpr z.2) (cmp_gt.mp c_11))] at kP; exact kP)
        | (rw [if1 ⟨l_nlt.mp (fun z => c_3 (cmp_lt.mpr z)), l_nlt.mp (fun z => c_11 (cmp_gt.mpr z))⟩] at kP; exact kP)
theorem m_type {L : Nat} {xs : Nat → Int32} {Post : Option Value → mHeap → Prop} {fen : Nat → Int32} {t r nm : List Nat} {cnt : Nat → Nat} {rc : Nat → List Nat} {rk : Nat → Nat} {co cu tr an sg am pv : Nat} {pre h : mHeap} {b : Nat} (hW : MW fen t r nm cnt rc rk co cu tr an sg am pv pre h) (htl : t.length < 40) (kP : ∀ h', MW fen (t ++ [b]) r nm cnt rc rk co cu tr an sg am pv pre h' → Post none h') : mMet M_Mod_type L xs (0, 0) 0 0 [.ref 24, .int (nI b)] h Post := by
  obtain ⟨h0, fkey, fdig, fnm, frc, frl, frb, fta, frd, fbl, fmo, fse, fre, fma, fend, fr, fo, ⟨ht, hr, hnm, hdg, hF, hta, hrd⟩, hB, hq, rfl⟩ := hW
  refine s_Mod_type hB ht htl (fun fr2 h2 => ?_)
  exact kP _ ⟨h0, fkey, fdig, fnm, frc, frl, frb, fta, frd, fbl, fmo, fse, fre, fma, fend, fr2, fo, ⟨h2, hr, hnm, hdg, hF, hta, hrd⟩, hB, hq, rfl⟩
theorem m_clear {fen : Nat → Int32} {t r nm : List Nat} {cnt : Nat → Nat} {rc : Nat → List Nat} {rk : Nat → Nat} {co cu tr an sg am pv : Nat} {pre h : mHeap} (hW : MW fen t r nm cnt rc rk co cu tr an sg am pv pre h) : ∃ (X : mCell), h[24]? = some X ∧ MW fen [] r nm cnt rc rk co cu tr an sg am pv pre (h.set 24 (cMod cu tr an sg am pv 0 r.length)) := by
  obtain ⟨h0, fkey, fdig, fnm, frc, frl, frb, fta, frd, fbl, fmo, fse, fre, fma, fend, fr, fo, ⟨ht, hr, hnm, hdg, hF, hta, hrd⟩, hB, hq, rfl⟩ := hW
  refine ⟨_, (pP_24 hB.1), ?_⟩
  rw [pP_s24]
  exact ⟨h0, fkey, fdig, fnm, frc, frl, frb, fta, frd, fbl, fmo, fse, fre, fma, fend, fr, fo, ⟨(fun j hj => by cases hj), hr, hnm, hdg, hF, hta, hrd⟩, hB, hq, rfl⟩
theorem s_Mod_begin {L : Nat} {xs : Nat → Int32} {Post : Option Value → mHeap → Prop} {fen : Nat → Int32} {t r nm : List Nat} {cnt : Nat → Nat} {rc : Nat → List Nat} {rk : Nat → Nat} {co cu tr an sg am pv : Nat} {pre h : mHeap} {i p q c : Nat} (hW : MW fen t r nm cnt rc rk co cu tr an sg am pv pre h) (hi : i < 65536) (hc : c < 256) (kP : ∀ h', MW fen (headT i p q c) r nm cnt rc rk co cu tr an sg am pv pre h' → Post none h') : mMet M_Mod_begin L xs (1, 21) 0 0 [.ref 24, .int (nI i), .int (nI p), .int (nI q), .int (nI c)] h Post := by
  refine mMet_of rfl (Nat.le_of_ble_eq_true rfl) ?_
  refine mj_aload_n d_Mod_begin_0 rfl ?_
  refine mj_iconst d_Mod_begin_1 (nI 0) (by decide) ?_
  refine mj_put d_Mod_begin_2 fd_Mod_97 ft_Mod_12 (MW_24 hW) (Nat.le_of_ble_eq_true rfl) rfl rfl ?_
  dsimp only [List.set]
  obtain ⟨_, _, hW0⟩ := m_clear hW
  refine mj_aload_n d_Mod_begin_5 rfl ?_
  refine mj_iload_n d_Mod_begin_6 rfl ?_
  refine mj_sipush d_Mod_begin_7 (nI 256) (by decide) ?_
  refine mj_idiv d_Mod_begin_10 (by decide) ?_
  rw [pk_div (by omega) (by decide) (by decide)]
  refine mj_virtual (d' := (0, 0)) (mc := 0) (ms := 0) (As := [_]) d_Mod_begin_11 cw_Mod_type q_731 q_733 qs_Mod_type (ci := 6) rfl (MW_24 hW0) rfl rfl (mRoomB rfl) ?_
  refine m_type hW0 (by simp) (fun h1 hW1 => ?_)
  refine mj_aload_n d_Mod_begin_14 rfl ?_
  refine mj_iload_n d_Mod_begin_15 rfl ?_
  refine mj_sipush d_Mod_begin_16 (nI 256) (by decide) ?_
  refine mj_irem d_Mod_begin_19 (by decide) ?_
  rw [pk_rem (by omega) (by decide) (by decide)]
  refine mj_virtual (d' := (0, 0)) (mc := 0) (ms := 0) (As := [_]) d_Mod_begin_20 cw_Mod_type q_731 q_733 qs_Mod_type (ci := 6) rfl (MW_24 hW1) rfl rfl (mRoomB rfl) ?_
  refine m_type hW1 (by simp) (fun h2 hW2 => ?_)
  refine mj_aload_n d_Mod_begin_23 rfl ?_
  refine mj_iload_n d_Mod_begin_24 rfl ?_
  refine mj_virtual (d' := (0, 0)) (mc := 0) (ms := 0) (As := [_]) d_Mod_begin_25 cw_Mod_type q_731 q_733 qs_Mod_type (ci := 6) rfl (MW_24 hW2) rfl rfl (mRoomB rfl) ?_
  refine m_type hW2 (by simp) (fun h3 hW3 => ?_)
  refine mj_aload_n d_Mod_begin_28 rfl ?_
  refine mj_iload_n d_Mod_begin_29 rfl ?_
  refine mj_virtual (d' := (0, 0)) (mc := 0) (ms := 0) (As := [_]) d_Mod_begin_30 cw_Mod_type q_731 q_733 qs_Mod_type (ci := 6) rfl (MW_24 hW3) rfl rfl (mRoomB rfl) ?_
  refine m_type hW3 (by simp) (fun h4 hW4 => ?_)
  refine mj_iload d_Mod_begin_33 rfl ?_
  refine mj_ifleN d_Mod_begin_35 44 rfl (by omega) (fun c_35 => ?_) (fun c_35 => ?_)
  · refine mj_vret d_Mod_begin_44 rfl (Nat.le_refl _) (Nat.le_refl _) ?_
    first
      | (have e : [] ++ [i / 256] ++ [i % 256] ++ [p] ++ [q] ++ [c] = headT i p q c := by unfold headT; rw [if_pos c_35]; rfl
         rw [e] at hW5; exact kP _ hW5)
      | (have e : [] ++ [i / 256] ++ [i % 256] ++ [p] ++ [q] = headT i p q c := by unfold headT; rw [if_neg (by omega)]; rfl
         rw [e] at hW4; exact kP _ hW4)
  · refine mj_aload_n d_Mod_begin_38 rfl ?_
    refine mj_iload d_Mod_begin_39 rfl ?_
    refine mj_virtual (d' := (0, 0)) (mc := 0) (ms := 0) (As := [_]) d_Mod_begin_41 cw_Mod_type q_731 q_733 qs_Mod_type (ci := 6) rfl (MW_24 hW4) rfl rfl (mRoomB rfl) ?_
    refine m_type hW4 (by simp) (fun h5 hW5 => ?_)
    refine mj_vret d_Mod_begin_44 rfl (Nat.le_refl _) (Nat.le_refl _) ?_
    first
      | (have e : [] ++ [i / 256] ++ [i % 256] ++ [p] ++ [q] ++ [c] = headT i p q c := by unfold headT; rw [if_pos c_35]; rfl
         rw [e] at hW5; exact kP _ hW5)
      | (have e : [] ++ [i / 256] ++ [i % 256] ++ [p] ++ [q] = headT i p q c := by unfold headT; rw [if_neg (by omega)]; rfl
         rw [e] at hW4; exact kP _ hW4)
theorem beL6_at {a : Int64} {i : Nat} (h : i < 6) : (beL a 6).getD i 0 = byteN a (5 - i) := by
  rcases (show i = 0 ∨ i = 1 ∨ i = 2 ∨ i = 3 ∨ i = 4 ∨ i = 5 by omega) with rfl | rfl | rfl | rfl | rfl | rfl <;> rfl
theorem beL4_at {n : Int32} {i : Nat} (h : i < 4) : (beL n.toInt64 4).getD i 0 = byteI n (3 - i) := by
  rw [← byteI_l n (3 - i) (by omega)]
  rcases (show i = 0 ∨ i = 1 ∨ i = 2 ∨ i = 3 by omega) with rfl | rfl | rfl | rfl <;> rfl
theorem lk_six {L : Nat} {xs : Nat → Int32} {Post : Option Value → mHeap → Prop} {fen : Nat → Int32} {t r nm : List Nat} {cnt : Nat → Nat} {rc : Nat → List Nat} {rk : Nat → Nat} {co cu tr an sg am pv : Nat} {pre : mHeap} {a : Int64} (htl : t.length + 6 ≤ 40) (kP : ∀ h', MW fen (t ++ beL a 6) r nm cnt rc rk co cu tr an sg am pv pre h' → Post none h') : ∀ (m i : Nat) (h : mHeap), i + m = 6 → MW fen (t ++ (beL a 6).take i) r nm cnt rc rk co cu tr an sg am pv pre h → mGo M_Mod_typeSix L xs (1, 21) 0 0 Post 0 0 2 [some (.ref 24), some (.long a), none, some (.int (nI i))] [] h := by
  intro m
  induction m with
  | zero =>
    intro i h hi hW
    refine mj_iload_n d_Mod_typeSix_2 rfl ?_
    refine mj_bipush d_Mod_typeSix_3 (nI 6) (by decide) ?_
    refine mj_icmpgeN d_Mod_typeSix_5 32 rfl (by omega) (fun c_5 => ?_) (fun c_5 => ?_)
    · refine mj_vret d_Mod_typeSix_32 rfl (Nat.le_refl _) (Nat.le_refl _) ?_
      rw [List.take_of_length_le (by rw [beL_len]; omega)] at hW
      exact kP h hW
    · omega
  | succ m ih =>
    intro i h hi hW
    refine mj_iload_n d_Mod_typeSix_2 rfl ?_
    refine mj_bipush d_Mod_typeSix_3 (nI 6) (by decide) ?_
    refine mj_icmpgeN d_Mod_typeSix_5 32 rfl (by omega) (fun c_5 => ?_) (fun c_5 => ?_)
    · omega
    · refine mj_aload_n d_Mod_typeSix_8 rfl ?_
      refine mj_lload_n d_Mod_typeSix_9 rfl ?_
      refine mj_bipush d_Mod_typeSix_10 (nI 40) (by decide) ?_
      refine mj_bipush d_Mod_typeSix_12 (nI 8) (by decide) ?_
      refine mj_iload_n d_Mod_typeSix_14 rfl ?_
      refine mj_imul d_Mod_typeSix_15 ?_
      refine mj_isub d_Mod_typeSix_16 ?_
      refine mj_lshr d_Mod_typeSix_17 ?_
      refine mj_ldc2 d_Mod_typeSix_18 255 q_658 ?_
      refine mj_land d_Mod_typeSix_21 ?_
      refine mj_l2i d_Mod_typeSix_22 ?_
      rw [l_b2 _ _ (5 - i) (sh40 i (by omega)) (by omega), ← beL6_at (a := a) (i := i) (by omega)]
      refine mj_virtual (d' := (0, 0)) (mc := 0) (ms := 0) (As := [_]) d_Mod_typeSix_23 cw_Mod_type q_731 q_733 qs_Mod_type (ci := 6) rfl (MW_24 hW) rfl rfl (mRoomB rfl) ?_
      refine m_type hW (by simp [beL_len]; omega) (fun h1 hW1 => ?_)
      rw [List.append_assoc, take_s (by rw [beL_len]; omega)] at hW1
      refine mj_iinc d_Mod_typeSix_26 rfl (by decide) (nI (i + 1)) (nI_1 i) ?_
      dsimp only [mSt1, mSt2, mKill, Nat.reduceAdd]
      refine mj_goto d_Mod_typeSix_29 2 rfl ?_
      exact ih (i + 1) h1 (by omega) hW1
theorem s_Mod_typeSix {L : Nat} {xs : Nat → Int32} {Post : Option Value → mHeap → Prop} {fen : Nat → Int32} {t r nm : List Nat} {cnt : Nat → Nat} {rc : Nat → List Nat} {rk : Nat → Nat} {co cu tr an sg am pv : Nat} {pre h : mHeap} {a : Int64} (hW : MW fen t r nm cnt rc rk co cu tr an sg am pv pre h) (htl : t.length + 6 ≤ 40) (kP : ∀ h', MW fen (t ++ beL a 6) r nm cnt rc rk co cu tr an sg am pv pre h' → Post none h') : mMet M_Mod_typeSix L xs (1, 21) 0 0 [.ref 24, .long a] h Post := by
  refine mMet_of rfl (Nat.le_of_ble_eq_true rfl) ?_
  refine mj_iconst d_Mod_typeSix_0 (nI 0) (by decide) ?_
  refine mj_istore_n d_Mod_typeSix_1 (by decide) ?_
  dsimp only [mSt1, mSt2, mKill, Nat.reduceAdd]
  exact lk_six htl kP 6 0 h (by omega) (by rw [List.take_zero, List.append_nil]; exact hW)
