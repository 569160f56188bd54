/-- what is fixed for the class, at the start: the addresses of its words and rows -/
theorem l_fixed {s : State} {args : Array Value} (hts : ∀ w ∈ lw_tbl, w.before args s = true) (hgv : (Jvm.Cond.and given_1 narrow_1).before args s = true) : ∃ g : Nat → Nat, ∀ (V : z_V), (∀ i, z_ad V (1000 + i) = g i) → (∀ q, z_A V q → s.heap.size ≤ q) → z_FX V s := by
  have hf : ∀ {k : Nat} {w : Cond}, y_fl[k]? = some w → w.before args s = true := fun {k w} h => flat_of_before _ hgv w (List.mem_of_getElem? h)
  have hA : ∀ a : Nat, a < s.heap.size → ¬ l_A s a := fun a h => Nat.not_le.mpr h
  obtain ⟨t1, e1, T1⟩ := va_Tof (N := 8) (f := fun k => .int (z_l_NUMBERS_OF.getD k 0)) (A := l_A s) (by omega) (hf y_f10) (va_eqt (hf y_f11)) (fun j hj => va_eqt (hf (y_f12 j hj))) hA
  obtain ⟨t2, e2, T2⟩ := va_Tof (N := 32) (f := fun k => .int (z_l_BOUNDS.getD k 0)) (A := l_A s) (by omega) (hf y_f21) (va_eqt (hf y_f22)) (fun j hj => va_eqt (hf (y_f23 j hj))) hA
  have Z1 := va_Zof (A := l_A s) (hts _ y_t0) (hts _ y_t4) e1 hA
  have Z2 := va_Zof (A := l_A s) (hts _ y_t1) (hts _ y_t4) e2 hA
  have Z3 := va_Zof (A := l_A s) (hts _ y_t2) (hts _ y_t5) (va_eqi (hf y_f4)) hA
  have Z4 := va_Zqof (A := l_A s) (hts _ y_t3) (hts _ y_t6) (hf y_f5) hA
  obtain ⟨aK, aV, hS, hE⟩ := vk_Sof (N := 8) (tm := y_tm) (len := z_slen) (byt := z_sbyt) (A := l_A s) y_s7 (fun i hi => hf (y_s0 i hi)) (fun i hi => hf (y_s1 i hi)) (fun i hi => hf (y_s2 i hi)) (fun i hi => hf (y_s3 i hi)) (fun i hi j hj => hf (y_s4 i hi j hj)) (fun i j hi hj hij => by
    rcases Nat.lt_or_gt_of_ne hij with h | h
    · exact Or.inl (hf (y_s5 j hj i h))
    · exact Or.inr (hf (y_s5 i hi j h))) hA
  refine ⟨fun i => if i < 8 then aK i else if i = 8 then t1 else if i = 9 then t2 else aV (i - 10), fun V hg hV => ?_⟩
  have g0 : ∀ i, i < 8 → z_ad V (1000 + i) = aK i := fun i hi => (hg i).trans (if_pos hi)
  have g8 : z_ad V 1008 = t1 := (hg 8).trans rfl
  have g9 : z_ad V 1009 = t2 := (hg 9).trans rfl
  have g10 : ∀ i, i < 8 → z_ad V (1010 + i) = aV i := fun i hi => by
    have h : z_ad V (1000 + (10 + i)) = (if 10 + i < 8 then aK (10 + i) else if 10 + i = 8 then t1 else if 10 + i = 9 then t2 else aV (10 + i - 10)) := hg (10 + i)
    rw [if_neg (by omega), if_neg (by omega), if_neg (by omega), Nat.add_sub_cancel_left] at h
    rw [show 1010 + i = 1000 + (10 + i) by omega]
    exact h
  refine ⟨va_Nw.of rfl (hts _ y_t7), ⟨?_, ?_⟩, ⟨?_, ?_⟩, fun i hi => ?_, y_vkS g0 g10 (hS.narrow hV), Z3.narrow hV, Z4.narrow hV⟩
  · rw [g8]; exact Z1.narrow hV
  · rw [g8]; exact T1.narrow hV
  · rw [g9]; exact Z2.narrow hV
  · rw [g9]; exact T2.narrow hV
  · rw [g0 i hi]; exact vk_R.of (hts _ (y_s6 i hi)) (hE i hi)
