theorem pP_sk {h : mHeap} {X c : mCell} {fr fo : Nat → Int32} {k : Nat} (h1 : 24 ≠ k) (h2 : 31 ≠ k) (h3 : 32 ≠ k) : (pP h X fr fo).set k c = pP (h.set k c) X fr fo := by
  unfold pP
  rw [List.set_comm _ _ h1, List.set_comm _ _ h3, List.set_comm _ _ h2]
theorem tk24 {h : mHeap} {k : Nat} {c : mCell} (hk : 24 ≤ k) : (h.set k c).take 24 = h.take 24 := List.take_set_of_le hk
theorem exne {h : mHeap} {k j : Nat} {c : mCell} (hx : ∃ x, h[k]? = some x) (hj : j ≠ k) : ∃ x, (h.set j c)[k]? = some x := by
  obtain ⟨x, hx⟩ := hx
  exact ⟨x, gne hx hj⟩
theorem MBs_25 {h : mHeap} {fkey fdig fnm frc frl frb fen fta frd fbl fmo fse fre fma fend : Nat → Int32} {x : Nat → Int32} (hB : MB h fkey fdig fnm frc frl frb fen fta frd fbl fmo fse fre fma fend) : MB (h.set 25 (cArr 16 x)) x fdig fnm frc frl frb fen fta frd fbl fmo fse fre fma fend := ⟨exne hB.1 (by decide), exne hB.2.1 (by decide), exne hB.2.2.1 (by decide), gself hB.2.2.2.1, gne hB.2.2.2.2.1 (by decide), gne hB.2.2.2.2.2.1 (by decide), gne hB.2.2.2.2.2.2.1 (by decide), gne hB.2.2.2.2.2.2.2.1 (by decide), gne hB.2.2.2.2.2.2.2.2.1 (by decide), gne hB.2.2.2.2.2.2.2.2.2.1 (by decide), gne hB.2.2.2.2.2.2.2.2.2.2.1 (by decide), gne hB.2.2.2.2.2.2.2.2.2.2.2.1 (by decide), gne hB.2.2.2.2.2.2.2.2.2.2.2.2.1 (by decide), gne hB.2.2.2.2.2.2.2.2.2.2.2.2.2.1 (by decide), gne hB.2.2.2.2.2.2.2.2.2.2.2.2.2.2.1 (by decide), gne hB.2.2.2.2.2.2.2.2.2.2.2.2.2.2.2.1 (by decide), gne hB.2.2.2.2.2.2.2.2.2.2.2.2.2.2.2.2.1 (by decide), gne hB.2.2.2.2.2.2.2.2.2.2.2.2.2.2.2.2.2 (by decide)⟩
theorem MBs_26 {h : mHeap} {fkey fdig fnm frc frl frb fen fta frd fbl fmo fse fre fma fend : Nat → Int32} {x : Nat → Int32} (hB : MB h fkey fdig fnm frc frl frb fen fta frd fbl fmo fse fre fma fend) : MB (h.set 26 (cArr 4 x)) fkey x fnm frc frl frb fen fta frd fbl fmo fse fre fma fend := ⟨exne hB.1 (by decide), exne hB.2.1 (by decide), exne hB.2.2.1 (by decide), gne hB.2.2.2.1 (by decide), gself hB.2.2.2.2.1, gne hB.2.2.2.2.2.1 (by decide), gne hB.2.2.2.2.2.2.1 (by decide), gne hB.2.2.2.2.2.2.2.1 (by decide), gne hB.2.2.2.2.2.2.2.2.1 (by decide), gne hB.2.2.2.2.2.2.2.2.2.1 (by decide), gne hB.2.2.2.2.2.2.2.2.2.2.1 (by decide), gne hB.2.2.2.2.2.2.2.2.2.2.2.1 (by decide), gne hB.2.2.2.2.2.2.2.2.2.2.2.2.1 (by decide), gne hB.2.2.2.2.2.2.2.2.2.2.2.2.2.1 (by decide), gne hB.2.2.2.2.2.2.2.2.2.2.2.2.2.2.1 (by decide), gne hB.2.2.2.2.2.2.2.2.2.2.2.2.2.2.2.1 (by decide), gne hB.2.2.2.2.2.2.2.2.2.2.2.2.2.2.2.2.1 (by decide), gne hB.2.2.2.2.2.2.2.2.2.2.2.2.2.2.2.2.2 (by decide)⟩
theorem MBs_28 {h : mHeap} {fkey fdig fnm frc frl frb fen fta frd fbl fmo fse fre fma fend : Nat → Int32} {x : Nat → Int32} (hB : MB h fkey fdig fnm frc frl frb fen fta frd fbl fmo fse fre fma fend) : MB (h.set 28 (cArr 4 x)) fkey fdig fnm x frl frb fen fta frd fbl fmo fse fre fma fend := ⟨exne hB.1 (by decide), exne hB.2.1 (by decide), exne hB.2.2.1 (by decide), gne hB.2.2.2.1 (by decide), gne hB.2.2.2.2.1 (by decide), gne hB.2.2.2.2.2.1 (by decide), gself hB.2.2.2.2.2.2.1, gne hB.2.2.2.2.2.2.2.1 (by decide), gne hB.2.2.2.2.2.2.2.2.1 (by decide), gne hB.2.2.2.2.2.2.2.2.2.1 (by decide), gne hB.2.2.2.2.2.2.2.2.2.2.1 (by decide), gne hB.2.2.2.2.2.2.2.2.2.2.2.1 (by decide), gne hB.2.2.2.2.2.2.2.2.2.2.2.2.1 (by decide), gne hB.2.2.2.2.2.2.2.2.2.2.2.2.2.1 (by decide), gne hB.2.2.2.2.2.2.2.2.2.2.2.2.2.2.1 (by decide), gne hB.2.2.2.2.2.2.2.2.2.2.2.2.2.2.2.1 (by decide), gne hB.2.2.2.2.2.2.2.2.2.2.2.2.2.2.2.2.1 (by decide), gne hB.2.2.2.2.2.2.2.2.2.2.2.2.2.2.2.2.2 (by decide)⟩
theorem MBs_29 {h : mHeap} {fkey fdig fnm frc frl frb fen fta frd fbl fmo fse fre fma fend : Nat → Int32} {x : Nat → Int32} (hB : MB h fkey fdig fnm frc frl frb fen fta frd fbl fmo fse fre fma fend) : MB (h.set 29 (cArr 12 x)) fkey fdig fnm frc x frb fen fta frd fbl fmo fse fre fma fend := ⟨exne hB.1 (by decide), exne hB.2.1 (by decide), exne hB.2.2.1 (by decide), gne hB.2.2.2.1 (by decide), gne hB.2.2.2.2.1 (by decide), gne hB.2.2.2.2.2.1 (by decide), gne hB.2.2.2.2.2.2.1 (by decide), gself hB.2.2.2.2.2.2.2.1, gne hB.2.2.2.2.2.2.2.2.1 (by decide), gne hB.2.2.2.2.2.2.2.2.2.1 (by decide), gne hB.2.2.2.2.2.2.2.2.2.2.1 (by decide), gne hB.2.2.2.2.2.2.2.2.2.2.2.1 (by decide), gne hB.2.2.2.2.2.2.2.2.2.2.2.2.1 (by decide), gne hB.2.2.2.2.2.2.2.2.2.2.2.2.2.1 (by decide), gne hB.2.2.2.2.2.2.2.2.2.2.2.2.2.2.1 (by decide), gne hB.2.2.2.2.2.2.2.2.2.2.2.2.2.2.2.1 (by decide), gne hB.2.2.2.2.2.2.2.2.2.2.2.2.2.2.2.2.1 (by decide), gne hB.2.2.2.2.2.2.2.2.2.2.2.2.2.2.2.2.2 (by decide)⟩
theorem MBs_30 {h : mHeap} {fkey fdig fnm frc frl frb fen fta frd fbl fmo fse fre fma fend : Nat → Int32} {x : Nat → Int32} (hB : MB h fkey fdig fnm frc frl frb fen fta frd fbl fmo fse fre fma fend) : MB (h.set 30 (cArr 360 x)) fkey fdig fnm frc frl x fen fta frd fbl fmo fse fre fma fend := ⟨exne hB.1 (by decide), exne hB.2.1 (by decide), exne hB.2.2.1 (by decide), gne hB.2.2.2.1 (by decide), gne hB.2.2.2.2.1 (by decide), gne hB.2.2.2.2.2.1 (by decide), gne hB.2.2.2.2.2.2.1 (by decide), gne hB.2.2.2.2.2.2.2.1 (by decide), gself hB.2.2.2.2.2.2.2.2.1, gne hB.2.2.2.2.2.2.2.2.2.1 (by decide), gne hB.2.2.2.2.2.2.2.2.2.2.1 (by decide), gne hB.2.2.2.2.2.2.2.2.2.2.2.1 (by decide), gne hB.2.2.2.2.2.2.2.2.2.2.2.2.1 (by decide), gne hB.2.2.2.2.2.2.2.2.2.2.2.2.2.1 (by decide), gne hB.2.2.2.2.2.2.2.2.2.2.2.2.2.2.1 (by decide), gne hB.2.2.2.2.2.2.2.2.2.2.2.2.2.2.2.1 (by decide), gne hB.2.2.2.2.2.2.2.2.2.2.2.2.2.2.2.2.1 (by decide), gne hB.2.2.2.2.2.2.2.2.2.2.2.2.2.2.2.2.2 (by decide)⟩
theorem MBs_33 {h : mHeap} {fkey fdig fnm frc frl frb fen fta frd fbl fmo fse fre fma fend : Nat → Int32} {x : Nat → Int32} (hB : MB h fkey fdig fnm frc frl frb fen fta frd fbl fmo fse fre fma fend) : MB (h.set 33 (cArr 16 x)) fkey fdig fnm frc frl frb x fta frd fbl fmo fse fre fma fend := ⟨exne hB.1 (by decide), exne hB.2.1 (by decide), exne hB.2.2.1 (by decide), gne hB.2.2.2.1 (by decide), gne hB.2.2.2.2.1 (by decide), gne hB.2.2.2.2.2.1 (by decide), gne hB.2.2.2.2.2.2.1 (by decide), gne hB.2.2.2.2.2.2.2.1 (by decide), gne hB.2.2.2.2.2.2.2.2.1 (by decide), gself hB.2.2.2.2.2.2.2.2.2.1, gne hB.2.2.2.2.2.2.2.2.2.2.1 (by decide), gne hB.2.2.2.2.2.2.2.2.2.2.2.1 (by decide), gne hB.2.2.2.2.2.2.2.2.2.2.2.2.1 (by decide), gne hB.2.2.2.2.2.2.2.2.2.2.2.2.2.1 (by decide), gne hB.2.2.2.2.2.2.2.2.2.2.2.2.2.2.1 (by decide), gne hB.2.2.2.2.2.2.2.2.2.2.2.2.2.2.2.1 (by decide), gne hB.2.2.2.2.2.2.2.2.2.2.2.2.2.2.2.2.1 (by decide), gne hB.2.2.2.2.2.2.2.2.2.2.2.2.2.2.2.2.2 (by decide)⟩
theorem MBs_35 {h : mHeap} {fkey fdig fnm frc frl frb fen fta frd fbl fmo fse fre fma fend : Nat → Int32} {x : Nat → Int32} (hB : MB h fkey fdig fnm frc frl frb fen fta frd fbl fmo fse fre fma fend) : MB (h.set 35 (cArr 176 x)) fkey fdig fnm frc frl frb fen fta x fbl fmo fse fre fma fend := ⟨exne hB.1 (by decide), exne hB.2.1 (by decide), exne hB.2.2.1 (by decide), gne hB.2.2.2.1 (by decide), gne hB.2.2.2.2.1 (by decide), gne hB.2.2.2.2.2.1 (by decide), gne hB.2.2.2.2.2.2.1 (by decide), gne hB.2.2.2.2.2.2.2.1 (by decide), gne hB.2.2.2.2.2.2.2.2.1 (by decide), gne hB.2.2.2.2.2.2.2.2.2.1 (by decide), gne hB.2.2.2.2.2.2.2.2.2.2.1 (by decide), gself hB.2.2.2.2.2.2.2.2.2.2.2.1, gne hB.2.2.2.2.2.2.2.2.2.2.2.2.1 (by decide), gne hB.2.2.2.2.2.2.2.2.2.2.2.2.2.1 (by decide), gne hB.2.2.2.2.2.2.2.2.2.2.2.2.2.2.1 (by decide), gne hB.2.2.2.2.2.2.2.2.2.2.2.2.2.2.2.1 (by decide), gne hB.2.2.2.2.2.2.2.2.2.2.2.2.2.2.2.2.1 (by decide), gne hB.2.2.2.2.2.2.2.2.2.2.2.2.2.2.2.2.2 (by decide)⟩
theorem MBs_36 {h : mHeap} {fkey fdig fnm frc frl frb fen fta frd fbl fmo fse fre fma fend : Nat → Int32} {x : Nat → Int32} (hB : MB h fkey fdig fnm frc frl frb fen fta frd fbl fmo fse fre fma fend) : MB (h.set 36 (cArr 16 x)) fkey fdig fnm frc frl frb fen fta frd x fmo fse fre fma fend := ⟨exne hB.1 (by decide), exne hB.2.1 (by decide), exne hB.2.2.1 (by decide), gne hB.2.2.2.1 (by decide), gne hB.2.2.2.2.1 (by decide), gne hB.2.2.2.2.2.1 (by decide), gne hB.2.2.2.2.2.2.1 (by decide), gne hB.2.2.2.2.2.2.2.1 (by decide), gne hB.2.2.2.2.2.2.2.2.1 (by decide), gne hB.2.2.2.2.2.2.2.2.2.1 (by decide), gne hB.2.2.2.2.2.2.2.2.2.2.1 (by decide), gne hB.2.2.2.2.2.2.2.2.2.2.2.1 (by decide), gself hB.2.2.2.2.2.2.2.2.2.2.2.2.1, gne hB.2.2.2.2.2.2.2.2.2.2.2.2.2.1 (by decide), gne hB.2.2.2.2.2.2.2.2.2.2.2.2.2.2.1 (by decide), gne hB.2.2.2.2.2.2.2.2.2.2.2.2.2.2.2.1 (by decide), gne hB.2.2.2.2.2.2.2.2.2.2.2.2.2.2.2.2.1 (by decide), gne hB.2.2.2.2.2.2.2.2.2.2.2.2.2.2.2.2.2 (by decide)⟩
theorem MBs_37 {h : mHeap} {fkey fdig fnm frc frl frb fen fta frd fbl fmo fse fre fma fend : Nat → Int32} {x : Nat → Int32} (hB : MB h fkey fdig fnm frc frl frb fen fta frd fbl fmo fse fre fma fend) : MB (h.set 37 (cArr 16 x)) fkey fdig fnm frc frl frb fen fta frd fbl x fse fre fma fend := ⟨exne hB.1 (by decide), exne hB.2.1 (by decide), exne hB.2.2.1 (by decide), gne hB.2.2.2.1 (by decide), gne hB.2.2.2.2.1 (by decide), gne hB.2.2.2.2.2.1 (by decide), gne hB.2.2.2.2.2.2.1 (by decide), gne hB.2.2.2.2.2.2.2.1 (by decide), gne hB.2.2.2.2.2.2.2.2.1 (by decide), gne hB.2.2.2.2.2.2.2.2.2.1 (by decide), gne hB.2.2.2.2.2.2.2.2.2.2.1 (by decide), gne hB.2.2.2.2.2.2.2.2.2.2.2.1 (by decide), gne hB.2.2.2.2.2.2.2.2.2.2.2.2.1 (by decide), gself hB.2.2.2.2.2.2.2.2.2.2.2.2.2.1, gne hB.2.2.2.2.2.2.2.2.2.2.2.2.2.2.1 (by decide), gne hB.2.2.2.2.2.2.2.2.2.2.2.2.2.2.2.1 (by decide), gne hB.2.2.2.2.2.2.2.2.2.2.2.2.2.2.2.2.1 (by decide), gne hB.2.2.2.2.2.2.2.2.2.2.2.2.2.2.2.2.2 (by decide)⟩
theorem MBs_38 {h : mHeap} {fkey fdig fnm frc frl frb fen fta frd fbl fmo fse fre fma fend : Nat → Int32} {x : Nat → Int32} (hB : MB h fkey fdig fnm frc frl frb fen fta frd fbl fmo fse fre fma fend) : MB (h.set 38 (cArr 64 x)) fkey fdig fnm frc frl frb fen fta frd fbl fmo x fre fma fend := ⟨exne hB.1 (by decide), exne hB.2.1 (by decide), exne hB.2.2.1 (by decide), gne hB.2.2.2.1 (by decide), gne hB.2.2.2.2.1 (by decide), gne hB.2.2.2.2.2.1 (by decide), gne hB.2.2.2.2.2.2.1 (by decide), gne hB.2.2.2.2.2.2.2.1 (by decide), gne hB.2.2.2.2.2.2.2.2.1 (by decide), gne hB.2.2.2.2.2.2.2.2.2.1 (by decide), gne hB.2.2.2.2.2.2.2.2.2.2.1 (by decide), gne hB.2.2.2.2.2.2.2.2.2.2.2.1 (by decide), gne hB.2.2.2.2.2.2.2.2.2.2.2.2.1 (by decide), gne hB.2.2.2.2.2.2.2.2.2.2.2.2.2.1 (by decide), gself hB.2.2.2.2.2.2.2.2.2.2.2.2.2.2.1, gne hB.2.2.2.2.2.2.2.2.2.2.2.2.2.2.2.1 (by decide), gne hB.2.2.2.2.2.2.2.2.2.2.2.2.2.2.2.2.1 (by decide), gne hB.2.2.2.2.2.2.2.2.2.2.2.2.2.2.2.2.2 (by decide)⟩
theorem MBs_39 {h : mHeap} {fkey fdig fnm frc frl frb fen fta frd fbl fmo fse fre fma fend : Nat → Int32} {x : Nat → Int32} (hB : MB h fkey fdig fnm frc frl frb fen fta frd fbl fmo fse fre fma fend) : MB (h.set 39 (cArr 16 x)) fkey fdig fnm frc frl frb fen fta frd fbl fmo fse x fma fend := ⟨exne hB.1 (by decide), exne hB.2.1 (by decide), exne hB.2.2.1 (by decide), gne hB.2.2.2.1 (by decide), gne hB.2.2.2.2.1 (by decide), gne hB.2.2.2.2.2.1 (by decide), gne hB.2.2.2.2.2.2.1 (by decide), gne hB.2.2.2.2.2.2.2.1 (by decide), gne hB.2.2.2.2.2.2.2.2.1 (by decide), gne hB.2.2.2.2.2.2.2.2.2.1 (by decide), gne hB.2.2.2.2.2.2.2.2.2.2.1 (by decide), gne hB.2.2.2.2.2.2.2.2.2.2.2.1 (by decide), gne hB.2.2.2.2.2.2.2.2.2.2.2.2.1 (by decide), gne hB.2.2.2.2.2.2.2.2.2.2.2.2.2.1 (by decide), gne hB.2.2.2.2.2.2.2.2.2.2.2.2.2.2.1 (by decide), gself hB.2.2.2.2.2.2.2.2.2.2.2.2.2.2.2.1, gne hB.2.2.2.2.2.2.2.2.2.2.2.2.2.2.2.2.1 (by decide), gne hB.2.2.2.2.2.2.2.2.2.2.2.2.2.2.2.2.2 (by decide)⟩
theorem MBs_40 {h : mHeap} {fkey fdig fnm frc frl frb fen fta frd fbl fmo fse fre fma fend : Nat → Int32} {x : Nat → Int32} (hB : MB h fkey fdig fnm frc frl frb fen fta frd fbl fmo fse fre fma fend) : MB (h.set 40 (cArr 16 x)) fkey fdig fnm frc frl frb fen fta frd fbl fmo fse fre x fend := ⟨exne hB.1 (by decide), exne hB.2.1 (by decide), exne hB.2.2.1 (by decide), gne hB.2.2.2.1 (by decide), gne hB.2.2.2.2.1 (by decide), gne hB.2.2.2.2.2.1 (by decide), gne hB.2.2.2.2.2.2.1 (by decide), gne hB.2.2.2.2.2.2.2.1 (by decide), gne hB.2.2.2.2.2.2.2.2.1 (by decide), gne hB.2.2.2.2.2.2.2.2.2.1 (by decide), gne hB.2.2.2.2.2.2.2.2.2.2.1 (by decide), gne hB.2.2.2.2.2.2.2.2.2.2.2.1 (by decide), gne hB.2.2.2.2.2.2.2.2.2.2.2.2.1 (by decide), gne hB.2.2.2.2.2.2.2.2.2.2.2.2.2.1 (by decide), gne hB.2.2.2.2.2.2.2.2.2.2.2.2.2.2.1 (by decide), gne hB.2.2.2.2.2.2.2.2.2.2.2.2.2.2.2.1 (by decide), gself hB.2.2.2.2.2.2.2.2.2.2.2.2.2.2.2.2.1, gne hB.2.2.2.2.2.2.2.2.2.2.2.2.2.2.2.2.2 (by decide)⟩
theorem MBs_41 {h : mHeap} {fkey fdig fnm frc frl frb fen fta frd fbl fmo fse fre fma fend : Nat → Int32} {x : Nat → Int32} (hB : MB h fkey fdig fnm frc frl frb fen fta frd fbl fmo fse fre fma fend) : MB (h.set 41 (cArr 40 x)) fkey fdig fnm frc frl frb fen fta frd fbl fmo fse fre fma x := ⟨exne hB.1 (by decide), exne hB.2.1 (by decide), exne hB.2.2.1 (by decide), gne hB.2.2.2.1 (by decide), gne hB.2.2.2.2.1 (by decide), gne hB.2.2.2.2.2.1 (by decide), gne hB.2.2.2.2.2.2.1 (by decide), gne hB.2.2.2.2.2.2.2.1 (by decide), gne hB.2.2.2.2.2.2.2.2.1 (by decide), gne hB.2.2.2.2.2.2.2.2.2.1 (by decide), gne hB.2.2.2.2.2.2.2.2.2.2.1 (by decide), gne hB.2.2.2.2.2.2.2.2.2.2.2.1 (by decide), gne hB.2.2.2.2.2.2.2.2.2.2.2.2.1 (by decide), gne hB.2.2.2.2.2.2.2.2.2.2.2.2.2.1 (by decide), gne hB.2.2.2.2.2.2.2.2.2.2.2.2.2.2.1 (by decide), gne hB.2.2.2.2.2.2.2.2.2.2.2.2.2.2.2.1 (by decide), gne hB.2.2.2.2.2.2.2.2.2.2.2.2.2.2.2.2.1 (by decide), gself hB.2.2.2.2.2.2.2.2.2.2.2.2.2.2.2.2.2⟩
/-- what a seal leaves behind -/
def sB (h : mHeap) (a m t b c : Nat → Int32) : mHeap := ((((h.set 38 (cArr 64 a)).set 40 (cArr 16 m)).set 37 (cArr 16 t)).set 36 (cArr 16 b)).set 39 (cArr 16 c)
theorem seal_pP {h : mHeap} {X : mCell} {fr fo a m t b c : Nat → Int32} : (kP ((pP h X fr fo).set 38 (cArr 64 a)) m t b).set 39 (cArr 16 c) = pP (sB h a m t b c) X fr fo := by
  unfold kP eP sB
  rw [pP_sk (by decide) (by decide) (by decide), pP_sk (by decide) (by decide) (by decide), pP_sk (by decide) (by decide) (by decide), pP_sk (by decide) (by decide) (by decide), pP_sk (by decide) (by decide) (by decide)]
theorem sB_tk {h : mHeap} {a m t b c : Nat → Int32} : (sB h a m t b c).take 24 = h.take 24 := by
  unfold sB
  rw [tk24 (by decide), tk24 (by decide), tk24 (by decide), tk24 (by decide), tk24 (by decide)]
theorem sB_MB {h : mHeap} {fkey fdig fnm frc frl frb fen fta frd fbl fmo fse fre fma fend : Nat → Int32} {a m t b c : Nat → Int32} (hB : MB h fkey fdig fnm frc frl frb fen fta frd fbl fmo fse fre fma fend) : MB (sB h a m t b c) fkey fdig fnm frc frl frb fen fta frd b t a c m fend := MBs_39 (MBs_36 (MBs_37 (MBs_40 (MBs_38 hB))))
theorem nI_shlk {a k : Nat} (s : Int32) (hs : (s.toBitVec.smod 32).toNat = k) : nI a <<< s = nI (2 ^ k * a) := by
  apply Int32.toBitVec_inj.1
  show BitVec.ofNat 32 a <<< (s.toBitVec.smod 32) = BitVec.ofNat 32 (2 ^ k * a)
  rw [BitVec.shiftLeft_eq', hs]
  apply BitVec.eq_of_toNat_eq
  rw [BitVec.toNat_shiftLeft, BitVec.toNat_ofNat, BitVec.toNat_ofNat, Nat.shiftLeft_eq, Nat.mul_comm (a % 2 ^ 32), Nat.mul_mod_mod]
theorem num4 {a b c d : Nat} (hb : b < 256) (hc : c < 256) (hd : d < 256) : nI a <<< (nI 24 &&& 31) ||| nI b <<< (nI 16 &&& 31) ||| nI c <<< (nI 8 &&& 31) ||| nI d = nI (((a * 256 + b) * 256 + c) * 256 + d) := by
  rw [nI_shlk (k := 24) _ (by decide), nI_shlk (k := 16) _ (by decide), nI_shlk (k := 8) _ (by decide), nI_or, nI_or, nI_or]
  congr 1
  rw [← Nat.two_pow_add_eq_or_of_lt (i := 24) (by omega) a, show 2 ^ 24 * a + 2 ^ 16 * b = 2 ^ 16 * (256 * a + b) by omega, ← Nat.two_pow_add_eq_or_of_lt (i := 16) (by omega), show 2 ^ 16 * (256 * a + b) + 2 ^ 8 * c = 2 ^ 8 * (256 * (256 * a + b) + c) by omega, ← Nat.two_pow_add_eq_or_of_lt (i := 8) (by omega)]
  omega
theorem amt4 {t : List Nat} {p : Nat} (hp : p + 4 ≤ t.length) : amtN t p 4 = ((t.getD p 0 * 256 + t.getD (p + 1) 0) * 256 + t.getD (p + 2) 0) * 256 + t.getD (p + 3) 0 := by
  unfold amtN
  have hh : ∀ k, k < 4 → t[p + k]? = some (t.getD (p + k) 0) := fun k hk => by rw [List.getD_eq_getElem?_getD, List.getElem?_eq_getElem (by omega)]; rfl
  have e : (t.drop p).take 4 = [t.getD p 0, t.getD (p + 1) 0, t.getD (p + 2) 0, t.getD (p + 3) 0] := by
    rw [List.take_succ, List.take_succ, List.take_succ, List.take_succ, List.take_zero, List.getElem?_drop, List.getElem?_drop, List.getElem?_drop, List.getElem?_drop, hh 0 (by decide), hh 1 (by decide), hh 2 (by decide), hh 3 (by decide)]
    rfl
  rw [e]
  simp [beV]
theorem byte_nI {v i : Nat} (hv : v < 2 ^ 32) (hi : i < 4) : byteN (nI v).toInt64 i = byteN (lN v) i := by
  rw [byteI_l _ i hi, byteN_l (by omega)]
  unfold byteI
  have e : (nI v).toBitVec.toNat = v := by
    show (BitVec.ofNat 32 v).toNat = v
    rw [BitVec.toNat_ofNat]
    exact Nat.mod_eq_of_lt hv
  rw [e]
theorem pay_num {t : List Nat} {cu gv pv : Nat} (hb : Bb t) : payM (lN (amtN t 5 6)) (nI (amtN t 11 4)).toInt64 (lN cu) gv pv = mesF t cu gv pv := by
  have hv : amtN t 11 4 < 2 ^ 32 := by
    have h1 := beV_lt ((t.drop 11).take 4) (fun b h => hb b (List.mem_of_mem_drop (List.mem_of_mem_take h)))
    have h2 : ((t.drop 11).take 4).length ≤ 4 := by rw [List.length_take]; omega
    have h3 : 256 ^ ((t.drop 11).take 4).length ≤ 256 ^ 4 := Nat.pow_le_pow_right (by decide) h2
    have h4 : (256 : Nat) ^ 4 = 2 ^ 32 := by decide
    unfold amtN
    omega
  unfold mesF payM
  have e : beL (nI (amtN t 11 4)).toInt64 4 = beL (lN (amtN t 11 4)) 4 := by
    simp only [beL]
    rw [byte_nI hv (by decide), byte_nI hv (by decide), byte_nI hv (by decide), byte_nI hv (by decide)]
  rw [e]
theorem sl8_len (s : Nat → Nat) : (sl8 s).length = 8 := by simp [sl8]
theorem sl8_at {s : Nat → Nat} {i : Nat} (h : i < 8) : (sl8 s).getD i 0 = s i := by
  rw [List.getD_eq_getElem?_getD, List.getElem?_eq_getElem (by rw [sl8_len]; exact h)]
  simp [sl8]
theorem l_give {L : Nat} {xs : Nat → Int32} {Post : Option Value → mHeap → Prop} {h : mHeap} {fkey fdig fnm frc frl frb fen fta frd fbl fmo fse fre fma fend : Nat → Int32} {cu tr an sg am pv : Nat} {t : List Nat} {fr : Nat → Int32} (hB : MB h fkey fdig fnm frc frl frb fen fta frd fbl fmo fse fre fma fend) {gv : Nat} {nn : Int32} {s : Nat → Nat} (hs : FA 16 s fre) (kk : ∀ f, Rf ([119, 20, 159, 39, 1, gv, 159, 54, 2, cu / 256, cu % 256, 159, 38, 8] ++ sl8 s) f → Post (some (.int (nI 36864))) (pP h (cMod cu tr an sg am pv (t).length ([119, 20, 159, 39, 1, gv, 159, 54, 2, cu / 256, cu % 256, 159, 38, 8] ++ sl8 s).length) fr f)) : ∀ (m i : Nat) (gg : Nat → Int32), i + m = 8 → Rf ([119, 20, 159, 39, 1, gv, 159, 54, 2, cu / 256, cu % 256, 159, 38, 8] ++ (sl8 s).take i) gg → mGo M_Mod_give L xs (4, 102) 0 0 Post 0 0 182 [some (.ref 24), some (.int (nI gv)), some (.int nn), some (.int (nI i))] [] (pP h (cMod cu tr an sg am pv (t).length ([119, 20, 159, 39, 1, gv, 159, 54, 2, cu / 256, cu % 256, 159, 38, 8] ++ (sl8 s).take i).length) fr gg) := by
  intro m
  induction m with
  | zero =>
    intro i gg hi hg
    refine mj_iload_n d_Mod_give_182 rfl ?_
    refine mj_bipush d_Mod_give_183 (nI 8) (by decide) ?_
    refine mj_icmpgeN d_Mod_give_185 204 rfl (by omega) (fun c_185 => ?_) (fun c_185 => ?_)
    · refine mj_ldc d_Mod_give_204 (nI 36864) q_620 ?_
      refine mj_iret d_Mod_give_206 rfl rfl (Nat.le_refl _) (Nat.le_refl _) ?_
      rw [List.take_of_length_le (by rw [sl8_len]; omega)] at hg ⊢
      exact kk gg hg
    · omega
  | succ m ih =>
    intro i gg hi hg
    refine mj_iload_n d_Mod_give_182 rfl ?_
    refine mj_bipush d_Mod_give_183 (nI 8) (by decide) ?_
    refine mj_icmpgeN d_Mod_give_185 204 rfl (by omega) (fun c_185 => ?_) (fun c_185 => ?_)
    · omega
    · refine mj_aload_n d_Mod_give_188 rfl ?_
      refine mj_aload_n d_Mod_give_189 rfl ?_
      refine mj_get d_Mod_give_190 fd_Mod_56 (pP_24 hB.1) rfl ?_
      refine mj_iload_n d_Mod_give_193 rfl ?_
      refine mj_ialdN d_Mod_give_194 (pP_get hB.2.2.2.2.2.2.2.2.2.2.2.2.2.2.2.1 (by decide) (by decide) (by decide)) (by omega) ?_
      rw [hs _ (by omega), ← sl8_at (s := s) (i := i) (by omega)]
      refine mj_virtual (d' := (0, 0)) (mc := 0) (ms := 0) (As := [_]) d_Mod_give_195 cw_Mod_say q_616 q_618 qs_Mod_say (ci := 6) rfl (pP_24 hB.1) rfl rfl (mRoomB rfl) ?_
      refine s_Mod_say hB hg (by simp; omega) (fun f1 g1 => ?_)
      rw [List.append_assoc, take_s (by rw [sl8_len]; omega)] at g1 ⊢
      refine mj_iinc d_Mod_give_198 rfl (by decide) (nI (i + 1)) (nI_1 i) ?_
      dsimp only [mSt1, mSt2, mKill, Nat.reduceAdd]
      refine mj_goto d_Mod_give_201 182 rfl ?_
      exact ih (i + 1) f1 (by omega) g1
theorem t_giveM {L : Nat} {xs : Nat → Int32} {Post : Option Value → mHeap → Prop} {h : mHeap} {fkey fdig fnm frc frl frb fen fta frd fbl fmo fse fre fma fend : Nat → Int32} {cu tr an sg am pv : Nat} {t : List Nat} {fr fo : Nat → Int32} (hB : MB h fkey fdig fnm frc frl frb fen fta frd fbl fmo fse fre fma fend) {gv : Nat} {nn : Int32} {s : Nat → Nat} (hs : FA 16 s fre) (hu : cu < 65536) (kk : ∀ f, Rf ([119, 20, 159, 39, 1, gv, 159, 54, 2, cu / 256, cu % 256, 159, 38, 8] ++ sl8 s) f → Post (some (.int (nI 36864))) (pP h (cMod cu tr an sg am pv (t).length ([119, 20, 159, 39, 1, gv, 159, 54, 2, cu / 256, cu % 256, 159, 38, 8] ++ sl8 s).length) fr f)) : mGo M_Mod_give L xs (4, 102) 0 0 Post 0 0 109 [some (.ref 24), some (.int (nI gv)), some (.int nn), none] [] (pP h (cMod cu tr an sg am pv (t).length (([] : List Nat)).length) fr fo) := by
  refine mj_aload_n d_Mod_give_109 rfl ?_
  refine mj_bipush d_Mod_give_110 (nI 119) (by decide) ?_
  refine mj_bipush d_Mod_give_112 (nI 20) (by decide) ?_
  refine mj_virtual (d' := (1, 21)) (mc := 0) (ms := 0) (As := [_, _]) d_Mod_give_114 cw_Mod_say2 q_612 q_614 qs_Mod_say2 (ci := 6) rfl (pP_24 hB.1) rfl rfl (mRoomB rfl) ?_
  refine s_Mod_say2 hB (r := []) (fun j hj => by cases hj) (by simp) (fun f1 g1 => ?_)
  refine mj_aload_n d_Mod_give_117 rfl ?_
  refine mj_sipush d_Mod_give_118 (nI 159) (by decide) ?_
  refine mj_bipush d_Mod_give_121 (nI 39) (by decide) ?_
  refine mj_virtual (d' := (1, 21)) (mc := 0) (ms := 0) (As := [_, _]) d_Mod_give_123 cw_Mod_say2 q_612 q_614 qs_Mod_say2 (ci := 6) rfl (pP_24 hB.1) rfl rfl (mRoomB rfl) ?_
  refine s_Mod_say2 hB g1 (by simp) (fun f2 g2 => ?_)
  refine mj_aload_n d_Mod_give_126 rfl ?_
  refine mj_iconst d_Mod_give_127 (nI 1) (by decide) ?_
  refine mj_iload_n d_Mod_give_128 rfl ?_
  refine mj_virtual (d' := (1, 21)) (mc := 0) (ms := 0) (As := [_, _]) d_Mod_give_129 cw_Mod_say2 q_612 q_614 qs_Mod_say2 (ci := 6) rfl (pP_24 hB.1) rfl rfl (mRoomB rfl) ?_
  refine s_Mod_say2 hB g2 (by simp) (fun f3 g3 => ?_)
  refine mj_aload_n d_Mod_give_132 rfl ?_
  refine mj_sipush d_Mod_give_133 (nI 159) (by decide) ?_
  refine mj_bipush d_Mod_give_136 (nI 54) (by decide) ?_
  refine mj_virtual (d' := (1, 21)) (mc := 0) (ms := 0) (As := [_, _]) d_Mod_give_138 cw_Mod_say2 q_612 q_614 qs_Mod_say2 (ci := 6) rfl (pP_24 hB.1) rfl rfl (mRoomB rfl) ?_
  refine s_Mod_say2 hB g3 (by simp) (fun f4 g4 => ?_)
  refine mj_aload_n d_Mod_give_141 rfl ?_
  refine mj_iconst d_Mod_give_142 (nI 2) (by decide) ?_
  refine mj_virtual (d' := (0, 0)) (mc := 0) (ms := 0) (As := [_]) d_Mod_give_143 cw_Mod_say q_616 q_618 qs_Mod_say (ci := 6) rfl (pP_24 hB.1) rfl rfl (mRoomB rfl) ?_
  refine s_Mod_say hB g4 (by simp) (fun f5 g5 => ?_)
  refine mj_aload_n d_Mod_give_146 rfl ?_
  refine mj_aload_n d_Mod_give_147 rfl ?_
  refine mj_get d_Mod_give_148 fd_Mod_112 (pP_24 hB.1) rfl ?_
  refine mj_bipush d_Mod_give_151 (nI 8) (by decide) ?_
  refine mj_ishr d_Mod_give_153 ?_
  rw [nI_sh8 hu]
  refine mj_aload_n d_Mod_give_154 rfl ?_
  refine mj_get d_Mod_give_155 fd_Mod_112 (pP_24 hB.1) rfl ?_
  refine mj_sipush d_Mod_give_158 (nI 255) (by decide) ?_
  refine mj_iand d_Mod_give_161 ?_
  rw [nI_and255 (by omega)]
  refine mj_virtual (d' := (1, 21)) (mc := 0) (ms := 0) (As := [_, _]) d_Mod_give_162 cw_Mod_say2 q_612 q_614 qs_Mod_say2 (ci := 6) rfl (pP_24 hB.1) rfl rfl (mRoomB rfl) ?_
  refine s_Mod_say2 hB g5 (by simp) (fun f6 g6 => ?_)
  refine mj_aload_n d_Mod_give_165 rfl ?_
  refine mj_sipush d_Mod_give_166 (nI 159) (by decide) ?_
  refine mj_bipush d_Mod_give_169 (nI 38) (by decide) ?_
  refine mj_virtual (d' := (1, 21)) (mc := 0) (ms := 0) (As := [_, _]) d_Mod_give_171 cw_Mod_say2 q_612 q_614 qs_Mod_say2 (ci := 6) rfl (pP_24 hB.1) rfl rfl (mRoomB rfl) ?_
  refine s_Mod_say2 hB g6 (by simp) (fun f7 g7 => ?_)
  refine mj_aload_n d_Mod_give_174 rfl ?_
  refine mj_bipush d_Mod_give_175 (nI 8) (by decide) ?_
  refine mj_virtual (d' := (0, 0)) (mc := 0) (ms := 0) (As := [_]) d_Mod_give_177 cw_Mod_say q_616 q_618 qs_Mod_say (ci := 6) rfl (pP_24 hB.1) rfl rfl (mRoomB rfl) ?_
  refine s_Mod_say hB g7 (by simp) (fun f8 g8 => ?_)
  refine mj_iconst d_Mod_give_180 (nI 0) (by decide) ?_
  refine mj_istore_n d_Mod_give_181 (by decide) ?_
  dsimp only [mSt1, mSt2, mKill, Nat.reduceAdd]
  have e : [] ++ [119, 20] ++ [159, 39] ++ [1, gv] ++ [159, 54] ++ [2] ++ [cu / 256, cu % 256] ++ [159, 38] ++ [8] = [119, 20, 159, 39, 1, gv, 159, 54, 2, cu / 256, cu % 256, 159, 38, 8] ++ (sl8 s).take 0 := by rw [List.take_zero]; rfl
  rw [e] at g8 ⊢
  exact l_give hB hs kk 8 0 f8 (by omega) g8
theorem s_Mod_give {L : Nat} {xs : Nat → Int32} {Post : Option Value → mHeap → Prop} {h : mHeap} {fkey fdig fnm frc frl frb fen fta frd fbl fmo fse fre fma fend : Nat → Int32} {cu tr an sg am pv : Nat} {t : List Nat} {fr fo : Nat → Int32} (hB : MB h fkey fdig fnm frc frl frb fen fta frd fbl fmo fse fre fma fend) {rk : Nat → Nat} (hta : FA 256 sbN fta) (hrd : FA 176 rk frd) (hbk : Bt 176 rk) (ht : Rf t fr) (hbt : Bb t) (htl : t.length ≤ 40) (hn : (sg = 2 ∧ t.length = 15) ∨ (sg = 3 ∧ t.length = 17)) (ham : am < 2 ^ 48) (hsg : sg = 2 ∨ sg = 3) (han : an < 1000) (hpv : pv < 2) (hu : cu < 65536) (kk : ∀ (h1 : mHeap) (a m t2 b c f : Nat → Int32), MB h1 fkey fdig fnm frc frl frb fen fta frd b t2 a c m fend → h1.take 24 = h.take 24 → Rf (givR rk t cu (givN t am sg an pv) pv) f → Post (some (.int (nI 36864))) (pP h1 (cMod cu tr (if givN t am sg an pv = 64 then (if sg = 3 then 0 else an + 1) else an) (if givN t am sg an pv = 128 then 3 else 4) am pv (t).length (givR rk t cu (givN t am sg an pv) pv).length) fr f)) : mMet M_Mod_give L xs (4, 102) 0 0 [.ref 24] (pP h (cMod cu tr an sg am pv (t).length (([] : List Nat)).length) fr fo) Post := by
  refine mMet_of rfl (Nat.le_of_ble_eq_true rfl) ?_
  have b12 := getD_lt hbt 12
  have b13 := getD_lt hbt 13
  have b14 := getD_lt hbt 14
  have hgv := givN_v t am sg an pv
  refine mj_aload_n d_Mod_give_0 rfl ?_
  refine mj_virtual (d' := (1, 24)) (mc := 0) (ms := 0) (As := []) d_Mod_give_1 cw_Mod_given q_650 q_652 qs_Mod_given (ci := 6) rfl (pP_24 hB.1) rfl rfl (mRoomB rfl) ?_
  refine s_Mod_given hB ht hbt htl (by omega) (by omega) ham hsg (by omega) hpv ?_
  refine mj_istore_n d_Mod_give_4 (by decide) ?_
  dsimp only [mSt1, mSt2, mKill, Nat.reduceAdd]
  refine mj_aload_n d_Mod_give_5 rfl ?_
  refine mj_get d_Mod_give_6 fd_Mod_32 (pP_24 hB.1) rfl ?_
  refine mj_bipush d_Mod_give_9 (nI 11) (by decide) ?_
  refine mj_ialdN d_Mod_give_11 (pP_31 hB.2.1) (by omega) ?_
  rw [ht _ (by omega)]
  refine mj_bipush d_Mod_give_12 (nI 24) (by decide) ?_
  refine mj_ishl d_Mod_give_14 ?_
  refine mj_aload_n d_Mod_give_15 rfl ?_
  refine mj_get d_Mod_give_16 fd_Mod_32 (pP_24 hB.1) rfl ?_
  refine mj_bipush d_Mod_give_19 (nI 12) (by decide) ?_
  refine mj_ialdN d_Mod_give_21 (pP_31 hB.2.1) (by omega) ?_
  rw [ht _ (by omega)]
  refine mj_bipush d_Mod_give_22 (nI 16) (by decide) ?_
  refine mj_ishl d_Mod_give_24 ?_
  refine mj_ior d_Mod_give_25 ?_
  refine mj_aload_n d_Mod_give_26 rfl ?_
  refine mj_get d_Mod_give_27 fd_Mod_32 (pP_24 hB.1) rfl ?_
  refine mj_bipush d_Mod_give_30 (nI 13) (by decide) ?_
  refine mj_ialdN d_Mod_give_32 (pP_31 hB.2.1) (by omega) ?_
  rw [ht _ (by omega)]
  refine mj_bipush d_Mod_give_33 (nI 8) (by decide) ?_
  refine mj_ishl d_Mod_give_35 ?_
  refine mj_ior d_Mod_give_36 ?_
  refine mj_aload_n d_Mod_give_37 rfl ?_
  refine mj_get d_Mod_give_38 fd_Mod_32 (pP_24 hB.1) rfl ?_
  refine mj_bipush d_Mod_give_41 (nI 14) (by decide) ?_
  refine mj_ialdN d_Mod_give_43 (pP_31 hB.2.1) (by omega) ?_
  rw [ht _ (by omega)]
  refine mj_ior d_Mod_give_44 ?_
  rw [num4 b12 b13 b14, ← amt4 (t := t) (p := 11) (by omega)]
  refine mj_istore_n d_Mod_give_45 (by decide) ?_
  dsimp only [mSt1, mSt2, mKill, Nat.reduceAdd]
  refine mj_aload_n d_Mod_give_46 rfl ?_
  refine mj_aload_n d_Mod_give_47 rfl ?_
  refine mj_iconst d_Mod_give_48 (nI 5) (by decide) ?_
  refine mj_virtual (d' := (0, 0)) (mc := 0) (ms := 0) (As := [_]) d_Mod_give_49 cw_Mod_sixFrom q_625 q_627 qs_Mod_sixFrom (ci := 6) rfl (pP_24 hB.1) rfl rfl (mRoomB rfl) ?_
  refine s_Mod_sixFrom hB ht hbt (by omega) (by omega) ?_
  refine mj_iload_n d_Mod_give_52 rfl ?_
  refine mj_aload_n d_Mod_give_53 rfl ?_
  refine mj_get d_Mod_give_54 fd_Mod_112 (pP_24 hB.1) rfl ?_
  refine mj_iload_n d_Mod_give_57 rfl ?_
  refine mj_aload_n d_Mod_give_58 rfl ?_
  refine mj_get d_Mod_give_59 fd_Mod_166 (pP_24 hB.1) rfl ?_
  refine mj_virtual (d' := (3, 75)) (mc := 0) (ms := 0) (As := [_, _, _, _, _]) d_Mod_give_62 cw_Mod_sealPayment q_654 q_656 qs_Mod_sealPayment (ci := 6) rfl (pP_24 hB.1) rfl rfl (mRoomB rfl) ?_
  refine s_Mod_sealPayment (pP_24 hB.1) (pP_get hB.2.2.2.2.2.2.2.2.2.2.1 (by decide) (by decide) (by decide)) (pP_get hB.2.2.2.2.2.2.2.2.2.2.2.1 (by decide) (by decide) (by decide)) (pP_get hB.2.2.2.2.2.2.2.2.2.2.2.2.1 (by decide) (by decide) (by decide)) (pP_get hB.2.2.2.2.2.2.2.2.2.2.2.2.2.1 (by decide) (by decide) (by decide)) (pP_get hB.2.2.2.2.2.2.2.2.2.2.2.2.2.2.1 (by decide) (by decide) (by decide)) (pP_get hB.2.2.2.2.2.2.2.2.2.2.2.2.2.2.2.1 (by decide) (by decide) (by decide)) (pP_get hB.2.2.2.2.2.2.2.2.2.2.2.2.2.2.2.2.1 (by decide) (by decide) (by decide)) hta hrd hbk hu (by omega) hpv (fun a m t2 b c hs => ?_)
  rw [pay_num hbt] at hs
  rw [seal_pP]
  have hB1 := sB_MB (a := a) (m := m) (t := t2) (b := b) (c := c) hB
  have hq1 := sB_tk (h := h) (a := a) (m := m) (t := t2) (b := b) (c := c)
  generalize sB h a m t2 b c = h1 at hB1 hq1 ⊢
  have kk1 := fun f hf => kk h1 a m t2 b c f hB1 hq1 hf
  unfold givR at kk1
  refine mj_iload_n d_Mod_give_65 rfl ?_
  refine mj_bipush d_Mod_give_66 (nI 64) (by decide) ?_
  refine mj_icmpneN d_Mod_give_68 93 rfl (by omega) (fun c_68 => ?_) (fun c_68 => ?_)
  · refine mj_aload_n d_Mod_give_93 rfl ?_
    refine mj_iload_n d_Mod_give_94 rfl ?_
    refine mj_sipush d_Mod_give_95 (nI 128) (by decide) ?_
    refine mj_icmpneN d_Mod_give_98 105 rfl (by omega) (fun c_98 => ?_) (fun c_98 => ?_)
    · refine mj_iconst d_Mod_give_105 (nI 4) (by decide) ?_
      refine mj_put d_Mod_give_106 fd_Mod_109 ft_Mod_9 (pP_24 hB1.1) (Nat.le_of_ble_eq_true rfl) rfl rfl ?_
      rw [pP_s24]
      dsimp only [List.set]
      first
        | omega
        | (rw [if_pos c_68, if_pos c_77, if_neg (by omega)] at kk1; exact t_giveM hB1 hs hu kk1)
        | (rw [if_pos c_68, if_neg c_77, if_neg (by omega)] at kk1; exact t_giveM hB1 hs hu kk1)
        | (rw [if_neg c_68, if_pos c_98] at kk1; exact t_giveM hB1 hs hu kk1)
        | (rw [if_neg c_68, if_neg c_98] at kk1; exact t_giveM hB1 hs hu kk1)
    · refine mj_iconst d_Mod_give_101 (nI 3) (by decide) ?_
      refine mj_goto d_Mod_give_102 106 rfl ?_
      refine mj_put d_Mod_give_106 fd_Mod_109 ft_Mod_9 (pP_24 hB1.1) (Nat.le_of_ble_eq_true rfl) rfl rfl ?_
      rw [pP_s24]
      dsimp only [List.set]
      first
        | omega
        | (rw [if_pos c_68, if_pos c_77, if_neg (by omega)] at kk1; exact t_giveM hB1 hs hu kk1)
        | (rw [if_pos c_68, if_neg c_77, if_neg (by omega)] at kk1; exact t_giveM hB1 hs hu kk1)
        | (rw [if_neg c_68, if_pos c_98] at kk1; exact t_giveM hB1 hs hu kk1)
        | (rw [if_neg c_68, if_neg c_98] at kk1; exact t_giveM hB1 hs hu kk1)
  · refine mj_aload_n d_Mod_give_71 rfl ?_
    refine mj_aload_n d_Mod_give_72 rfl ?_
    refine mj_get d_Mod_give_73 fd_Mod_109 (pP_24 hB1.1) rfl ?_
    refine mj_iconst d_Mod_give_76 (nI 3) (by decide) ?_
    refine mj_icmpneN d_Mod_give_77 84 rfl (by omega) (fun c_77 => ?_) (fun c_77 => ?_)
    · refine mj_aload_n d_Mod_give_84 rfl ?_
      refine mj_get d_Mod_give_85 fd_Mod_173 (pP_24 hB1.1) rfl ?_
      refine mj_iconst d_Mod_give_88 (nI 1) (by decide) ?_
      refine mj_iadd d_Mod_give_89 ?_
      rw [nI_add]
      refine mj_put d_Mod_give_90 fd_Mod_173 ft_Mod_8 (pP_24 hB1.1) (Nat.le_of_ble_eq_true rfl) rfl rfl ?_
      rw [pP_s24]
      dsimp only [List.set]
      refine mj_aload_n d_Mod_give_93 rfl ?_
      refine mj_iload_n d_Mod_give_94 rfl ?_
      refine mj_sipush d_Mod_give_95 (nI 128) (by decide) ?_
      refine mj_icmpneN d_Mod_give_98 105 rfl (by omega) (fun c_98 => ?_) (fun c_98 => ?_)
      · refine mj_iconst d_Mod_give_105 (nI 4) (by decide) ?_
        refine mj_put d_Mod_give_106 fd_Mod_109 ft_Mod_9 (pP_24 hB1.1) (Nat.le_of_ble_eq_true rfl) rfl rfl ?_
        rw [pP_s24]
        dsimp only [List.set]
        first
          | omega
          | (rw [if_pos c_68, if_pos c_77, if_neg (by omega)] at kk1; exact t_giveM hB1 hs hu kk1)
          | (rw [if_pos c_68, if_neg c_77, if_neg (by omega)] at kk1; exact t_giveM hB1 hs hu kk1)
          | (rw [if_neg c_68, if_pos c_98] at kk1; exact t_giveM hB1 hs hu kk1)
          | (rw [if_neg c_68, if_neg c_98] at kk1; exact t_giveM hB1 hs hu kk1)
      · refine mj_iconst d_Mod_give_101 (nI 3) (by decide) ?_
        refine mj_goto d_Mod_give_102 106 rfl ?_
        refine mj_put d_Mod_give_106 fd_Mod_109 ft_Mod_9 (pP_24 hB1.1) (Nat.le_of_ble_eq_true rfl) rfl rfl ?_
        rw [pP_s24]
        dsimp only [List.set]
        first
          | omega
          | (rw [if_pos c_68, if_pos c_77, if_neg (by omega)] at kk1; exact t_giveM hB1 hs hu kk1)
          | (rw [if_pos c_68, if_neg c_77, if_neg (by omega)] at kk1; exact t_giveM hB1 hs hu kk1)
          | (rw [if_neg c_68, if_pos c_98] at kk1; exact t_giveM hB1 hs hu kk1)
          | (rw [if_neg c_68, if_neg c_98] at kk1; exact t_giveM hB1 hs hu kk1)
    · refine mj_iconst d_Mod_give_80 (nI 0) (by decide) ?_
      refine mj_goto d_Mod_give_81 90 rfl ?_
      refine mj_put d_Mod_give_90 fd_Mod_173 ft_Mod_8 (pP_24 hB1.1) (Nat.le_of_ble_eq_true rfl) rfl rfl ?_
      rw [pP_s24]
      dsimp only [List.set]
      refine mj_aload_n d_Mod_give_93 rfl ?_
      refine mj_iload_n d_Mod_give_94 rfl ?_
      refine mj_sipush d_Mod_give_95 (nI 128) (by decide) ?_
      refine mj_icmpneN d_Mod_give_98 105 rfl (by omega) (fun c_98 => ?_) (fun c_98 => ?_)
      · refine mj_iconst d_Mod_give_105 (nI 4) (by decide) ?_
        refine mj_put d_Mod_give_106 fd_Mod_109 ft_Mod_9 (pP_24 hB1.1) (Nat.le_of_ble_eq_true rfl) rfl rfl ?_
        rw [pP_s24]
        dsimp only [List.set]
        first
          | omega
          | (rw [if_pos c_68, if_pos c_77, if_neg (by omega)] at kk1; exact t_giveM hB1 hs hu kk1)
          | (rw [if_pos c_68, if_neg c_77, if_neg (by omega)] at kk1; exact t_giveM hB1 hs hu kk1)
          | (rw [if_neg c_68, if_pos c_98] at kk1; exact t_giveM hB1 hs hu kk1)
          | (rw [if_neg c_68, if_neg c_98] at kk1; exact t_giveM hB1 hs hu kk1)
      · refine mj_iconst d_Mod_give_101 (nI 3) (by decide) ?_
        refine mj_goto d_Mod_give_102 106 rfl ?_
        refine mj_put d_Mod_give_106 fd_Mod_109 ft_Mod_9 (pP_24 hB1.1) (Nat.le_of_ble_eq_true rfl) rfl rfl ?_
        rw [pP_s24]
        dsimp only [List.set]
        first
          | omega
          | (rw [if_pos c_68, if_pos c_77, if_neg (by omega)] at kk1; exact t_giveM hB1 hs hu kk1)
          | (rw [if_pos c_68, if_neg c_77, if_neg (by omega)] at kk1; exact t_giveM hB1 hs hu kk1)
          | (rw [if_neg c_68, if_pos c_98] at kk1; exact t_giveM hB1 hs hu kk1)
          | (rw [if_neg c_68, if_neg c_98] at kk1; exact t_giveM hB1 hs hu kk1)
