theorem lq6 : ∀ L, L < 6 → Int32.ofNat L - 6 < 0 := by decide
theorem lq_sgn (x : Int32) : x < 0 ∨ x = 0 ∨ (¬ x < 0 ∧ 0 < x) := by
  by_cases h : x < 0
  · exact Or.inl h
  · obtain ⟨j, hj, rfl⟩ := nI_of h
    rcases Nat.eq_zero_or_pos j with rfl | h0
    · exact Or.inr (Or.inl nI_0)
    · exact Or.inr (Or.inr ⟨h, by have := nI_lt h0 hj; rwa [nI_0] at this⟩)
theorem lq_low {x : Int32} (h : x < 0) (k : Int) : x.toInt < 0 ∨ k < x.toInt := Or.inl (by have := Int32.lt_iff_toInt_lt.mp h; simpa using this)
theorem lq_high {x : Int32} (n : Nat) (hn : n < 2 ^ 31) (h : nI n ≤ x) (k : Int) (hk : k < (n : Int)) : x.toInt < 0 ∨ k < x.toInt := Or.inr (by have := Int32.le_iff_toInt_le.mp h; rw [nI_toInt hn] at this; omega)
theorem lq_told (x : Int32) : x = 0 ∨ x = 1 ∨ x = 2 ∨ x = 3 ∨ x = 4 ∨ x = 5 ∨ x = 6 ∨ x = 7 ∨ x < 0 ∨ (¬ x < 0 ∧ 8 ≤ x) := by
  by_cases h : x < 0
  · simp [h]
  · obtain ⟨j, hj, rfl⟩ := nI_of h
    rcases Nat.lt_or_ge j 8 with h8 | h8
    · rcases (show j = 0 ∨ j = 1 ∨ j = 2 ∨ j = 3 ∨ j = 4 ∨ j = 5 ∨ j = 6 ∨ j = 7 by omega) with rfl | rfl | rfl | rfl | rfl | rfl | rfl | rfl <;> decide
    · have h9 : (8 : Int32) ≤ nI j := nI_le h8 hj
      simp [h, h9]
theorem lq_count {x : Int32} (h0 : ¬ x = 0) (h1 : ¬ x = 1) (h2 : ¬ x = 2) (h3 : ¬ x = 3) : x.toInt < 0 ∨ 3 < x.toInt := by
  by_cases h : x < 0
  · exact lq_low h 3
  · obtain ⟨j, hj, rfl⟩ := nI_of h
    rcases Nat.lt_or_ge j 4 with h8 | h8
    · rcases (show j = 0 ∨ j = 1 ∨ j = 2 ∨ j = 3 by omega) with rfl | rfl | rfl | rfl
      · exact absurd rfl h0
      · exact absurd rfl h1
      · exact absurd rfl h2
      · exact absurd rfl h3
    · exact lq_high 4 (by decide) (nI_le h8 hj) 3 (by decide)
set_option maxHeartbeats 4000000 in
set_option maxRecDepth 100000 in
theorem law_body {p : Program} {l : Launch} {e : Env} {s : State} {m : MethodId} {below : List Frame} {meth : Method} {c : Code} {b L : Nat} {xs : Nat → Int32} {dC : Nat → ClassId} {dI : Nat → Nat → Nat} {cB cI cJ cZ : ClassId} {q1 q2 : Nat} {u1 u2 : SQ} {H : Heap} {locs : List Loc} {ls : Array Slot} (hL : L ≤ 6) (C0 : lw_At p s m meth c b L xs) (hK : va_K (dC, dI) vwCl (tyQ cB cI cJ cZ) s) (hP : va_P (dC, dI) vwCl [(q1, .inr (10, [.ref (u1.1 0), .ref (u1.1 1), .ref (u1.1 2), .ref (u1.1 20), .ref (u1.1 21), .ref (u1.1 16), .ref (u1.1 17), .ref (u1.1 22), .ref (u1.1 23), .ref (u1.1 18), .ref (u1.1 24), .ref (u1.1 25), .ref (u1.1 19), .int 0, .int 0, .int (-1), .int 0, .int 0, .int 0])), ((u1.1 0), .inl (cB, 3000, .inl (fun _ => 0))), ((u1.1 1), .inr (8, [.ref (u1.1 26), .ref (u1.1 27), .ref (u1.1 28), .ref (u1.1 29), .ref (u1.1 30), .int 2, .int 1802])), ((u1.1 2), .inr (1, [.ref (u1.1 3), .ref (u1.1 4), .ref (u1.1 5), .ref (u1.1 6), .ref (u1.1 7), .ref (u1.1 8), .ref (u1.1 9), .ref (u1.1 31), .ref (u1.1 10), .int 0, .int 1700, .int 0])), ((u1.1 3), .inl (cI, 4610, .inl (fun _ => 0))), ((u1.1 4), .inl (cI, 4610, .inl (fun _ => 0))), ((u1.1 5), .inl (cI, 4610, .inl (fun _ => 0))), ((u1.1 6), .inl (cI, 4610, .inl (fun _ => 0))), ((u1.1 7), .inl (cI, 4610, .inl (fun _ => 0))), ((u1.1 8), .inl (cI, 4610, .inl (fun _ => 0))), ((u1.1 9), .inl (cJ, 4610, .inr (.inl (fun _ => 0)))), ((u1.1 10), .inl (cI, 2, .inl (fun _ => 0))), ((u1.1 11), .inr (2, [.ref (u1.1 0), .ref (u1.1 32), .ref (u1.1 12), .ref (u1.1 13), .ref (u1.1 14), .ref (u1.1 15), .int 0, .int 0, .int 0, .int 0, .int 0, .long 0])), ((u1.1 12), .inl (cI, 801, .inl (fun _ => 0))), ((u1.1 13), .inl (cI, 801, .inl (fun _ => 0))), ((u1.1 14), .inl (cI, 801, .inl (fun _ => 0))), ((u1.1 15), .inl (cJ, 801, .inr (.inl (fun _ => 0)))), ((u1.1 16), .inr (5, [.ref (u1.1 11), .ref (u1.1 2), .ref (u1.1 1), .int 0, .int 0, .int 0, .int 0, .int 0, .int 0, .long 0, .int 0])), ((u1.1 17), .inr (7, [.ref (u1.1 2), .ref (u1.1 1), .ref (u1.1 33), .ref (u1.1 34), .ref (u1.1 35), .ref (u1.1 36), .ref (u1.1 37), .int 0, .int 0, .int 0, .int 0, .int 0])), ((u1.1 18), .inr (9, [.ref (u1.1 2), .ref (u1.1 1), .ref (u1.1 20), .ref (u1.1 21), .ref (u1.1 38), .int 0, .int 0, .int 0])), ((u1.1 19), .inl (cI, 8, .inl (upd (upd (upd (upd (upd (upd (upd (upd (fun _ => 0) 0 (-1)) 1 0) 2 0) 3 0) 4 (-1)) 5 0) 6 0) 7 0))), (q2, .inr (11, mo0 u2.1)), ((u2.1 0), .inl (cI, 3000, .inl (fun _ => 0))), ((u2.1 2), .inl (cI, 3002, .inl (fun _ => 0))), ((u2.1 3), .inl (cI, 3002, .inl (fun _ => 0))), ((u2.1 4), .inl (cI, 3002, .inl (fun _ => 0))), ((u2.1 5), .inl (cJ, 3002, .inr (.inl (fun _ => 0))))] H) (hD : va_D (fun q : Nat => s.heap.size ≤ q) [(q1, .inr (10, [.ref (u1.1 0), .ref (u1.1 1), .ref (u1.1 2), .ref (u1.1 20), .ref (u1.1 21), .ref (u1.1 16), .ref (u1.1 17), .ref (u1.1 22), .ref (u1.1 23), .ref (u1.1 18), .ref (u1.1 24), .ref (u1.1 25), .ref (u1.1 19), .int 0, .int 0, .int (-1), .int 0, .int 0, .int 0])), ((u1.1 0), .inl (cB, 3000, .inl (fun _ => 0))), ((u1.1 1), .inr (8, [.ref (u1.1 26), .ref (u1.1 27), .ref (u1.1 28), .ref (u1.1 29), .ref (u1.1 30), .int 2, .int 1802])), ((u1.1 2), .inr (1, [.ref (u1.1 3), .ref (u1.1 4), .ref (u1.1 5), .ref (u1.1 6), .ref (u1.1 7), .ref (u1.1 8), .ref (u1.1 9), .ref (u1.1 31), .ref (u1.1 10), .int 0, .int 1700, .int 0])), ((u1.1 3), .inl (cI, 4610, .inl (fun _ => 0))), ((u1.1 4), .inl (cI, 4610, .inl (fun _ => 0))), ((u1.1 5), .inl (cI, 4610, .inl (fun _ => 0))), ((u1.1 6), .inl (cI, 4610, .inl (fun _ => 0))), ((u1.1 7), .inl (cI, 4610, .inl (fun _ => 0))), ((u1.1 8), .inl (cI, 4610, .inl (fun _ => 0))), ((u1.1 9), .inl (cJ, 4610, .inr (.inl (fun _ => 0)))), ((u1.1 10), .inl (cI, 2, .inl (fun _ => 0))), ((u1.1 11), .inr (2, [.ref (u1.1 0), .ref (u1.1 32), .ref (u1.1 12), .ref (u1.1 13), .ref (u1.1 14), .ref (u1.1 15), .int 0, .int 0, .int 0, .int 0, .int 0, .long 0])), ((u1.1 12), .inl (cI, 801, .inl (fun _ => 0))), ((u1.1 13), .inl (cI, 801, .inl (fun _ => 0))), ((u1.1 14), .inl (cI, 801, .inl (fun _ => 0))), ((u1.1 15), .inl (cJ, 801, .inr (.inl (fun _ => 0)))), ((u1.1 16), .inr (5, [.ref (u1.1 11), .ref (u1.1 2), .ref (u1.1 1), .int 0, .int 0, .int 0, .int 0, .int 0, .int 0, .long 0, .int 0])), ((u1.1 17), .inr (7, [.ref (u1.1 2), .ref (u1.1 1), .ref (u1.1 33), .ref (u1.1 34), .ref (u1.1 35), .ref (u1.1 36), .ref (u1.1 37), .int 0, .int 0, .int 0, .int 0, .int 0])), ((u1.1 18), .inr (9, [.ref (u1.1 2), .ref (u1.1 1), .ref (u1.1 20), .ref (u1.1 21), .ref (u1.1 38), .int 0, .int 0, .int 0])), ((u1.1 19), .inl (cI, 8, .inl (upd (upd (upd (upd (upd (upd (upd (upd (fun _ => 0) 0 (-1)) 1 0) 2 0) 3 0) 4 (-1)) 5 0) 6 0) 7 0))), (q2, .inr (11, mo0 u2.1)), ((u2.1 0), .inl (cI, 3000, .inl (fun _ => 0))), ((u2.1 2), .inl (cI, 3002, .inl (fun _ => 0))), ((u2.1 3), .inl (cI, 3002, .inl (fun _ => 0))), ((u2.1 4), .inl (cI, 3002, .inl (fun _ => 0))), ((u2.1 5), .inl (cJ, 3002, .inr (.inl (fun _ => 0))))]) (hS : va_S (fun q : Nat => s.heap.size ≤ q) s.heap H locs) (hl : lv_has ls 4 [(3, .int 0), (2, .ref q2), (1, .ref q1), (0, .ref b)]) : W p l e room_1 s m #[Value.ref b] below meth c H locs 135 830893 (lw_Z below #[Value.ref b] s) (F0 m 18 ls []) := by
  obtain ⟨hx, hb, hr, hml, hown, hts0, hX, hbl, hlocks, hgv⟩ := id C0
  have hbA : ¬ (fun q : Nat => s.heap.size ≤ q) b := Nat.not_le.mpr hbl
  refine lv_iload_n hx hb dL_law_18 rfl (lv_at hl 0 rfl) ?_
  refine lv_aload_n hx hb dL_law_19 rfl (lv_at hl 3 rfl) ?_
  refine va_slen hx hb hX hbl hbA hS dL_law_20 ?_
  refine lv_bipush (v := 6) hx hb dL_law_21 (by decide) ?_
  refine lv_isub hx hb dL_law_23 ?_
  rcases Nat.lt_or_ge L 6 with h6 | h6
  · refine lv_icmp_gt (tgt := 373) hx hb dL_law_24 (by decide) (fun _ => ?_) (fun c_ => absurd (lq6 L h6) c_)
    refine lv_iconst (v := 1) hx hb dL_law_373 (by decide) ?_
    refine va_forget (fun q hq => hS.2.2 q hq) ?_
    refine W.widen (k := 600000) (n := 7302250) (by decide) (by decide) ?_
    exact lw_ret hx hb hr hlocks dL_law_374
  · obtain rfl : L = 6 := by omega
    refine lv_icmp_gt (tgt := 373) hx hb dL_law_24 (by decide) (fun c_ => absurd c_ (by decide)) (fun _ => ?_)
    refine lv_aload_n hx hb dL_law_27 rfl (lv_at hl 3 rfl) ?_
    refine lv_iload_n hx hb dL_law_28 rfl (lv_at hl 0 rfl) ?_
    refine va_sld hx hb hX hbl hbA hS (pq_in (by decide)) dL_law_29 ?_
    refine lv_bipush (v := 15) hx hb dL_law_30 (by decide) ?_
    refine lv_iand hx hb dL_law_32 ?_
    refine lv_topi (fun x0 ex0 => ?_)
    obtain ⟨j, hj, ej⟩ := pk_andE (xs (0 : Int32).toNatClampNeg) (m := 15) 4 (by decide)
    obtain rfl : x0 = nI j := ex0.trans ej
    rcases (show j = 0 ∨ j = 1 ∨ j = 2 ∨ j = 3 ∨ j = 4 ∨ j = 5 ∨ j = 6 ∨ j = 7 ∨ j = 8 ∨ j = 9 ∨ j = 10 ∨ j = 11 ∨ j = 12 ∨ j = 13 ∨ j = 14 ∨ j = 15 by omega) with rfl | rfl | rfl | rfl | rfl | rfl | rfl | rfl | rfl | rfl | rfl | rfl | rfl | rfl | rfl | rfl
    · refine lv_tableIn (off := 51) (tgt := 84) hx hb dL_law_33 (by decide) (by decide) (by decide) (by decide) ?_
      exact lk_feed C0 hK hP hD hS hl
    · refine lv_tableIn (off := 114) (tgt := 147) hx hb dL_law_33 (by decide) (by decide) (by decide) (by decide) ?_
      rcases lq_sgn (xs 1) with h | h | ⟨h, h2⟩
      · exact lk_load_n C0 hK hP hD hS hl h
      · exact lk_load_z C0 hK hP hD hS hl h
      · exact lk_load_p C0 hK hP hD hS hl h h2
    · refine lv_tableIn (off := 137) (tgt := 170) hx hb dL_law_33 (by decide) (by decide) (by decide) (by decide) ?_
      by_cases h3 : xs 3 = 0
      · rcases lq_sgn (xs 1) with h | h | ⟨h, h2⟩
        · exact lk_ask_nf C0 hK hP hD hS hl h3 h
        · by_cases g1 : (xs 2) < 0
          · exact lk_ask_znf C0 hK hP hD hS hl h3 h g1
          · by_cases g2 : (xs 2) ≤ 500
            · exact lk_ask_okf C0 hK hP hD hS hl h3 h g1 g2 (Int32.not_lt.mpr g2)
            · exact lk_ask_zpf C0 hK hP hD hS hl h3 h g1 g2 (Int32.not_le.mp g2)
        · exact lk_ask_pf C0 hK hP hD hS hl h3 h h2
      · rcases lq_sgn (xs 1) with h | h | ⟨h, h2⟩
        · exact lk_ask_nt C0 hK hP hD hS hl h3 h
        · by_cases g1 : (xs 2) < 0
          · exact lk_ask_znt C0 hK hP hD hS hl h3 h g1
          · by_cases g2 : (xs 2) ≤ 500
            · exact lk_ask_okt C0 hK hP hD hS hl h3 h g1 g2 (Int32.not_lt.mpr g2)
            · exact lk_ask_zpt C0 hK hP hD hS hl h3 h g1 g2 (Int32.not_le.mp g2)
        · exact lk_ask_pt C0 hK hP hD hS hl h3 h h2
    · refine lv_tableIn (off := 196) (tgt := 229) hx hb dL_law_33 (by decide) (by decide) (by decide) (by decide) ?_
      by_cases h : xs 1 = 0
      · exact lk_fault_0 C0 hK hP hD hS hl h
      · by_cases h2 : xs 1 = 1
        · exact lk_fault_1 C0 hK hP hD hS hl h2
        · exact lk_fault_o C0 hK hP hD hS hl h h2
    · refine lv_tableIn (off := 219) (tgt := 252) hx hb dL_law_33 (by decide) (by decide) (by decide) (by decide) ?_
      rcases lq_told (xs 1) with h | h | h | h | h | h | h | h | h | ⟨h, h2⟩
      · exact lk_told_0 C0 hK hP hD hS hl h
      · exact lk_told_1 C0 hK hP hD hS hl h
      · exact lk_told_2 C0 hK hP hD hS hl h
      · exact lk_told_3 C0 hK hP hD hS hl h
      · exact lk_told_4 C0 hK hP hD hS hl h
      · exact lk_told_5 C0 hK hP hD hS hl h
      · exact lk_told_6 C0 hK hP hD hS hl h
      · exact lk_told_7 C0 hK hP hD hS hl h
      · exact lk_told_n C0 hK hP hD hS hl h (lq_low h 7)
      · exact lk_told_p C0 hK hP hD hS hl h (lq_high 8 (by decide) h2 7 (by decide)) h2
    · refine lv_tableIn (off := 242) (tgt := 275) hx hb dL_law_33 (by decide) (by decide) (by decide) (by decide) ?_
      by_cases h : xs 1 = 0
      · exact lk_type_0 C0 hK hP hD hS hl h
      · by_cases h2 : xs 1 = 1
        · by_cases h3 : (xs 2) < 0
          · exact lk_type_1n C0 hK hP hD hS hl h2 h3
          · exact lk_type_1p C0 hK hP hD hS hl h2 h3 (Int32.not_lt.mp h3)
        · exact lk_type_o C0 hK hP hD hS hl h h2
    · refine lv_tableIn (off := 275) (tgt := 308) hx hb dL_law_33 (by decide) (by decide) (by decide) (by decide) ?_
      exact lk_value C0 hK hP hD hS hl
    · refine lv_tableIn (off := 288) (tgt := 321) hx hb dL_law_33 (by decide) (by decide) (by decide) (by decide) ?_
      by_cases h : (xs 1) < 0
      · exact lk_out_n C0 hK hP hD hS hl h
      · exact lk_out_p C0 hK hP hD hS hl h (Int32.not_lt.mp h)
    · refine lv_tableIn (off := 311) (tgt := 344) hx hb dL_law_33 (by decide) (by decide) (by decide) (by decide) ?_
      by_cases h : xs 1 = 0
      · exact lk_count_0 C0 hK hP hD hS hl h
      · by_cases h1 : xs 1 = 1
        · exact lk_count_1 C0 hK hP hD hS hl h1
        · by_cases h2 : xs 1 = 2
          · exact lk_count_2 C0 hK hP hD hS hl h2
          · by_cases h3 : xs 1 = 3
            · exact lk_count_3 C0 hK hP hD hS hl h3
            · exact lk_count_o C0 hK hP hD hS hl h h1 h2 h3 (lq_count h h1 h2 h3)
    · refine lv_tableOut (tgt := 367) hx hb dL_law_33 (by decide) (by decide) ?_
      exact lk_none C0 hK hP hD hS hl
    · refine lv_tableOut (tgt := 367) hx hb dL_law_33 (by decide) (by decide) ?_
      exact lk_none C0 hK hP hD hS hl
    · refine lv_tableOut (tgt := 367) hx hb dL_law_33 (by decide) (by decide) ?_
      exact lk_none C0 hK hP hD hS hl
    · refine lv_tableOut (tgt := 367) hx hb dL_law_33 (by decide) (by decide) ?_
      exact lk_none C0 hK hP hD hS hl
    · refine lv_tableOut (tgt := 367) hx hb dL_law_33 (by decide) (by decide) ?_
      exact lk_none C0 hK hP hD hS hl
    · refine lv_tableOut (tgt := 367) hx hb dL_law_33 (by decide) (by decide) ?_
      exact lk_none C0 hK hP hD hS hl
    · refine lv_tableOut (tgt := 367) hx hb dL_law_33 (by decide) (by decide) ?_
      exact lk_none C0 hK hP hD hS hl
set_option maxHeartbeats 8000000 in
set_option maxRecDepth 100000 in
/-- THE LAW, from its entry -/
theorem whole_start {p : Program} {e : Env} {s : State} {m : MethodId} {below : List Frame} {meth : Method} {c : Code} (l : Launch) {b L : Nat} {xs : Nat → Int32} (hL : L ≤ 6) (C0 : lw_At p s m meth c b L xs) : W p l e room_1 s m #[Value.ref b] below meth c s.heap [] 0 0 (lw_Z below #[Value.ref b] s) (entryFrame m ([Value.ref b] : List Value).toArray 4) := by
  obtain ⟨hx, hb, hr, hml, hown, hts0, hX, hbl, hlocks, hgv⟩ := id C0
  have hts : ∀ w ∈ wq_law, w.before #[Value.ref b] s = true := fun w h => hts0 w (law_in w h)
  have hown : s.vm.findClass RL = some m.cls := hown
  have hA : ∀ q : Nat, s.heap.size ≤ q → (fun q : Nat => s.heap.size ≤ q) q := fun _ h => h
  have hA0 : ∀ a : Nat, a < s.heap.size → ¬ (fun q : Nat => s.heap.size ≤ q) a := fun a h => Nat.not_le.mpr h
  have hbA : ¬ (fun q : Nat => s.heap.size ≤ q) b := Nat.not_le.mpr hbl
  obtain ⟨dC, dI, cB, cI, cJ, cZ, hK⟩ := law_K hts0
  have hs := flat_of_before _ hgv
  obtain ⟨sv, hsv, hZ⟩ : ∃ sv : Value, (sv = .null ∨ ∃ a, sv = .ref a) ∧ va_Z "jdk/internal/util/Preconditions" "SIOOBE_FORMATTER" "Ljava/util/function/BiFunction;" sv (fun q : Nat => s.heap.size ≤ q) s s.heap := by
    rcases va_Zqof (A := fun q : Nat => s.heap.size ≤ q) (hts0 (.laysStatic "jdk/internal/util/Preconditions" "SIOOBE_FORMATTER" "Ljava/util/function/BiFunction;") (by decide +kernel)) (hts0 (.initialized "jdk/internal/util/Preconditions") (by decide +kernel)) (hs (.isRef (.static "jdk/internal/util/Preconditions" "SIOOBE_FORMATTER" "Ljava/util/function/BiFunction;")) (by decide +kernel)) hA0 with h | ⟨t, h⟩
    · exact ⟨.null, Or.inl rfl, h⟩
    · exact ⟨.ref t, Or.inr ⟨t, rfl⟩, h⟩
  obtain ⟨aK, aV, hR, hF⟩ := law_S1 hgv hts0 hA0 hZ
  obtain ⟨aK2, aV2, hR2, hF2⟩ := law_S2 hgv hts0 hA0 hZ
  have hN : cp_N s := ⟨va_Nw.of rfl (hts0 (Cond.methodLinkNest RX10 22 yX1_init "CodePress") (by decide +kernel)), va_Nw.of rfl (hts0 (Cond.methodLinkNest RX10 29 yX4_init "CodePress") (by decide +kernel)), va_Nw.of rfl (hts0 (Cond.methodLinkNest RX10 36 yX6_init "CodePress") (by decide +kernel))⟩
  have hS : va_S (fun q : Nat => s.heap.size ≤ q) s.heap s.heap [] := va_S.rf
  obtain ⟨H, hH⟩ : ∃ H, H = s.heap := ⟨_, rfl⟩
  have hS : va_S (fun q : Nat => s.heap.size ≤ q) s.heap H [] := by rw [hH]; exact hS
  have hP : va_P (dC, dI) vwCl [] H := pq_P0
  have hD : va_D (fun q : Nat => s.heap.size ≤ q) [] := pq_D0
  have hl := lv_entry ([.ref b]) (n := 4) (Nat.le_of_ble_eq_true rfl)
  rw [lg_entry_eq]
  generalize (lg_sl ([.ref b]) ++ List.replicate (4 - (lg_sl ([.ref b])).length) Slot.unset).toArray = ls at hl ⊢
  have hl : lv_has ls 4 [(0, .ref b)] := hl
  refine pq_heap hH ?_
  refine va_new (ci := 10) (fs := [.null, .null, .null, .null, .null, .null, .null, .null, .null, .null, .null, .null, .null, .int 0, .int 0, .int 0, .int 0, .int 0, .int 0]) (C := RX10) (T := TX10) (N := 19) hx hb hts iq_law_X10 tyX10 tyX10_ok hown (hts (Cond.classLink RL 7 RX10) (List.mem_of_getElem? (i := 337) rfl)) (hts (Cond.instantiable RX10 19) (List.mem_of_getElem? (i := 338) rfl)) (hts (Cond.initialized RX10) (List.mem_of_getElem? (i := 7) rfl)) hK hP hD hS hA rfl (by decide +kernel) (by decide +kernel) (by decide +kernel) dL_law_0 (fun q1 H hP hD hS => ?_)
  have hR9 : pq_R (dC, dI) vwCl (fun q : Nat => s.heap.size ≤ q) [(q1, .inr (10, [.null, .null, .null, .null, .null, .null, .null, .null, .null, .null, .null, .null, .null, .int 0, .int 0, .int 0, .int 0, .int 0, .int 0]))] H := ⟨hP, hD⟩
  have hP := hR9.1
  have hD := hR9.2
  refine W.widen (k := 1) (n := 19) (by decide +kernel) (by decide +kernel) ?_
  refine lv_dup hx hb dL_law_3 rfl ?_
  refine pq_cv (wr := []) (W1 := (fun u => [(q1, .inr (10, [.ref (u.1 0), .ref (u.1 1), .ref (u.1 2), .ref (u.1 20), .ref (u.1 21), .ref (u.1 16), .ref (u.1 17), .ref (u.1 22), .ref (u.1 23), .ref (u.1 18), .ref (u.1 24), .ref (u.1 25), .ref (u.1 19), .int 0, .int 0, .int (-1), .int 0, .int 0, .int 0])), ((u.1 0), .inl (cB, 3000, .inl (fun _ => 0))), ((u.1 1), .inr (8, [.ref (u.1 26), .ref (u.1 27), .ref (u.1 28), .ref (u.1 29), .ref (u.1 30), .int 2, .int 1802])), ((u.1 2), .inr (1, [.ref (u.1 3), .ref (u.1 4), .ref (u.1 5), .ref (u.1 6), .ref (u.1 7), .ref (u.1 8), .ref (u.1 9), .ref (u.1 31), .ref (u.1 10), .int 0, .int 1700, .int 0])), ((u.1 3), .inl (cI, 4610, .inl (fun _ => 0))), ((u.1 4), .inl (cI, 4610, .inl (fun _ => 0))), ((u.1 5), .inl (cI, 4610, .inl (fun _ => 0))), ((u.1 6), .inl (cI, 4610, .inl (fun _ => 0))), ((u.1 7), .inl (cI, 4610, .inl (fun _ => 0))), ((u.1 8), .inl (cI, 4610, .inl (fun _ => 0))), ((u.1 9), .inl (cJ, 4610, .inr (.inl (fun _ => 0)))), ((u.1 10), .inl (cI, 2, .inl (fun _ => 0))), ((u.1 11), .inr (2, [.ref (u.1 0), .ref (u.1 32), .ref (u.1 12), .ref (u.1 13), .ref (u.1 14), .ref (u.1 15), .int 0, .int 0, .int 0, .int 0, .int 0, .long 0])), ((u.1 12), .inl (cI, 801, .inl (fun _ => 0))), ((u.1 13), .inl (cI, 801, .inl (fun _ => 0))), ((u.1 14), .inl (cI, 801, .inl (fun _ => 0))), ((u.1 15), .inl (cJ, 801, .inr (.inl (fun _ => 0)))), ((u.1 16), .inr (5, [.ref (u.1 11), .ref (u.1 2), .ref (u.1 1), .int 0, .int 0, .int 0, .int 0, .int 0, .int 0, .long 0, .int 0])), ((u.1 17), .inr (7, [.ref (u.1 2), .ref (u.1 1), .ref (u.1 33), .ref (u.1 34), .ref (u.1 35), .ref (u.1 36), .ref (u.1 37), .int 0, .int 0, .int 0, .int 0, .int 0])), ((u.1 18), .inr (9, [.ref (u.1 2), .ref (u.1 1), .ref (u.1 20), .ref (u.1 21), .ref (u.1 38), .int 0, .int 0, .int 0])), ((u.1 19), .inl (cI, 8, .inl (upd (upd (upd (upd (upd (upd (upd (upd (fun _ => 0) 0 (-1)) 1 0) 2 0) 3 0) 4 (-1)) 5 0) 6 0) 7 0)))])) (va_runI (As := []) (rest := [.ref q1]) ⟨hx, hb, hml, hown, hts⟩ (cq_X10_init l dC dI cB cI cJ cZ q1 aK aV bq sv H.size hsv) (cwI 0 hts gq_law_X10_init rfl rfl rfl (hts (Cond.initialized RX10) (List.mem_of_getElem? (i := 7) rfl)) (hts (Cond.methodLink RL 9 yX10_init) (List.mem_of_getElem? (i := 495) rfl)) (hts (Cond.instanceMethod yX10_init) (List.mem_of_getElem? (i := 496) rfl)) rfl (by decide +kernel) ⟨(by decide +kernel), (by decide +kernel)⟩) ⟨pq_blindN, pq_preN hK hP hD hS hA hR hF hN [0] rfl rfl⟩ rfl rfl hl.1 rfl (lv_room (Nat.le_of_ble_eq_true rfl)) dL_law_4 ⟨(by decide +kernel), (by decide +kernel)⟩) hP hD hS hA [0] [] rfl rfl rfl (by decide) (fun u2 H locs hw hP hD hS => ?_)
  have hR9 : pq_R (dC, dI) vwCl (fun q : Nat => s.heap.size ≤ q) [(q1, .inr (10, [.ref (u2.1 0), .ref (u2.1 1), .ref (u2.1 2), .ref (u2.1 20), .ref (u2.1 21), .ref (u2.1 16), .ref (u2.1 17), .ref (u2.1 22), .ref (u2.1 23), .ref (u2.1 18), .ref (u2.1 24), .ref (u2.1 25), .ref (u2.1 19), .int 0, .int 0, .int (-1), .int 0, .int 0, .int 0])), ((u2.1 0), .inl (cB, 3000, .inl (fun _ => 0))), ((u2.1 1), .inr (8, [.ref (u2.1 26), .ref (u2.1 27), .ref (u2.1 28), .ref (u2.1 29), .ref (u2.1 30), .int 2, .int 1802])), ((u2.1 2), .inr (1, [.ref (u2.1 3), .ref (u2.1 4), .ref (u2.1 5), .ref (u2.1 6), .ref (u2.1 7), .ref (u2.1 8), .ref (u2.1 9), .ref (u2.1 31), .ref (u2.1 10), .int 0, .int 1700, .int 0])), ((u2.1 3), .inl (cI, 4610, .inl (fun _ => 0))), ((u2.1 4), .inl (cI, 4610, .inl (fun _ => 0))), ((u2.1 5), .inl (cI, 4610, .inl (fun _ => 0))), ((u2.1 6), .inl (cI, 4610, .inl (fun _ => 0))), ((u2.1 7), .inl (cI, 4610, .inl (fun _ => 0))), ((u2.1 8), .inl (cI, 4610, .inl (fun _ => 0))), ((u2.1 9), .inl (cJ, 4610, .inr (.inl (fun _ => 0)))), ((u2.1 10), .inl (cI, 2, .inl (fun _ => 0))), ((u2.1 11), .inr (2, [.ref (u2.1 0), .ref (u2.1 32), .ref (u2.1 12), .ref (u2.1 13), .ref (u2.1 14), .ref (u2.1 15), .int 0, .int 0, .int 0, .int 0, .int 0, .long 0])), ((u2.1 12), .inl (cI, 801, .inl (fun _ => 0))), ((u2.1 13), .inl (cI, 801, .inl (fun _ => 0))), ((u2.1 14), .inl (cI, 801, .inl (fun _ => 0))), ((u2.1 15), .inl (cJ, 801, .inr (.inl (fun _ => 0)))), ((u2.1 16), .inr (5, [.ref (u2.1 11), .ref (u2.1 2), .ref (u2.1 1), .int 0, .int 0, .int 0, .int 0, .int 0, .int 0, .long 0, .int 0])), ((u2.1 17), .inr (7, [.ref (u2.1 2), .ref (u2.1 1), .ref (u2.1 33), .ref (u2.1 34), .ref (u2.1 35), .ref (u2.1 36), .ref (u2.1 37), .int 0, .int 0, .int 0, .int 0, .int 0])), ((u2.1 18), .inr (9, [.ref (u2.1 2), .ref (u2.1 1), .ref (u2.1 20), .ref (u2.1 21), .ref (u2.1 38), .int 0, .int 0, .int 0])), ((u2.1 19), .inl (cI, 8, .inl (upd (upd (upd (upd (upd (upd (upd (upd (fun _ => 0) 0 (-1)) 1 0) 2 0) 3 0) 4 (-1)) 5 0) 6 0) 7 0)))] H := ⟨hP, hD⟩
  have hP := hR9.1
  have hD := hR9.2
  refine W.widen (k := 64) (n := 122736) (by decide +kernel) (by decide +kernel) ?_
  refine lv_astore_n (lv' := [(1, .ref q1), (0, .ref b)]) hx hb dL_law_7 rfl hl (by decide) rfl (fun ls hl => ?_)
  refine va_new (ci := 11) (fs := [.null, .int 0, .null, .null, .null, .null, .null, .int 0, .int 0, .null, .null, .null, .int 0, .null, .null, .null, .null, .null, .null, .null, .null, .null, .null, .null, .null, .null, .null, .null, .null, .int 0, .null, .null, .null, .null, .null, .null, .int 0, .int 0, .int 0, .int 0, .int 0, .int 0, .int 0, .int 0, .int 0, .int 0, .int 0, .int 0, .null, .null, .null, .null, .null, .null, .null, .null, .null, .null, .int 0, .int 0, .null, .null, .null, .null, .int 0, .int 0, .int 0, .int 0, .int 0, .null, .null, .null, .null, .int 0, .null, .null, .null, .null, .int 0, .null, .null, .null, .null, .int 0, .null, .null, .null, .null, .null, .null, .int 0, .int 0, .int 0, .int 0, .int 0, .int 0, .int 0, .int 0, .int 0, .int 0, .null, .int 0, .null, .int 0, .null, .int 0, .null, .int 0, .int 0, .int 0, .int 0, .int 0, .int 0, .int 0, .int 0, .int 0, .int 0, .null, .int 0, .null, .null, .int 0]) (C := RX11) (T := TX11) (N := 122) hx hb hts iq_law_X11 tyX11 tyX11_ok hown (hts (Cond.classLink RL 10 RX11) (List.mem_of_getElem? (i := 497) rfl)) (hts (Cond.instantiable RX11 122) (List.mem_of_getElem? (i := 498) rfl)) (hts (Cond.initialized RX11) (List.mem_of_getElem? (i := 18) rfl)) hK hP hD hS hA rfl (by decide +kernel) (by decide +kernel) (by decide +kernel) dL_law_8 (fun q3 H hP hD hS => ?_)
  have hR9 : pq_R (dC, dI) vwCl (fun q : Nat => s.heap.size ≤ q) [(q1, .inr (10, [.ref (u2.1 0), .ref (u2.1 1), .ref (u2.1 2), .ref (u2.1 20), .ref (u2.1 21), .ref (u2.1 16), .ref (u2.1 17), .ref (u2.1 22), .ref (u2.1 23), .ref (u2.1 18), .ref (u2.1 24), .ref (u2.1 25), .ref (u2.1 19), .int 0, .int 0, .int (-1), .int 0, .int 0, .int 0])), ((u2.1 0), .inl (cB, 3000, .inl (fun _ => 0))), ((u2.1 1), .inr (8, [.ref (u2.1 26), .ref (u2.1 27), .ref (u2.1 28), .ref (u2.1 29), .ref (u2.1 30), .int 2, .int 1802])), ((u2.1 2), .inr (1, [.ref (u2.1 3), .ref (u2.1 4), .ref (u2.1 5), .ref (u2.1 6), .ref (u2.1 7), .ref (u2.1 8), .ref (u2.1 9), .ref (u2.1 31), .ref (u2.1 10), .int 0, .int 1700, .int 0])), ((u2.1 3), .inl (cI, 4610, .inl (fun _ => 0))), ((u2.1 4), .inl (cI, 4610, .inl (fun _ => 0))), ((u2.1 5), .inl (cI, 4610, .inl (fun _ => 0))), ((u2.1 6), .inl (cI, 4610, .inl (fun _ => 0))), ((u2.1 7), .inl (cI, 4610, .inl (fun _ => 0))), ((u2.1 8), .inl (cI, 4610, .inl (fun _ => 0))), ((u2.1 9), .inl (cJ, 4610, .inr (.inl (fun _ => 0)))), ((u2.1 10), .inl (cI, 2, .inl (fun _ => 0))), ((u2.1 11), .inr (2, [.ref (u2.1 0), .ref (u2.1 32), .ref (u2.1 12), .ref (u2.1 13), .ref (u2.1 14), .ref (u2.1 15), .int 0, .int 0, .int 0, .int 0, .int 0, .long 0])), ((u2.1 12), .inl (cI, 801, .inl (fun _ => 0))), ((u2.1 13), .inl (cI, 801, .inl (fun _ => 0))), ((u2.1 14), .inl (cI, 801, .inl (fun _ => 0))), ((u2.1 15), .inl (cJ, 801, .inr (.inl (fun _ => 0)))), ((u2.1 16), .inr (5, [.ref (u2.1 11), .ref (u2.1 2), .ref (u2.1 1), .int 0, .int 0, .int 0, .int 0, .int 0, .int 0, .long 0, .int 0])), ((u2.1 17), .inr (7, [.ref (u2.1 2), .ref (u2.1 1), .ref (u2.1 33), .ref (u2.1 34), .ref (u2.1 35), .ref (u2.1 36), .ref (u2.1 37), .int 0, .int 0, .int 0, .int 0, .int 0])), ((u2.1 18), .inr (9, [.ref (u2.1 2), .ref (u2.1 1), .ref (u2.1 20), .ref (u2.1 21), .ref (u2.1 38), .int 0, .int 0, .int 0])), ((u2.1 19), .inl (cI, 8, .inl (upd (upd (upd (upd (upd (upd (upd (upd (fun _ => 0) 0 (-1)) 1 0) 2 0) 3 0) 4 (-1)) 5 0) 6 0) 7 0))), (q3, .inr (11, [.null, .int 0, .null, .null, .null, .null, .null, .int 0, .int 0, .null, .null, .null, .int 0, .null, .null, .null, .null, .null, .null, .null, .null, .null, .null, .null, .null, .null, .null, .null, .null, .int 0, .null, .null, .null, .null, .null, .null, .int 0, .int 0, .int 0, .int 0, .int 0, .int 0, .int 0, .int 0, .int 0, .int 0, .int 0, .int 0, .null, .null, .null, .null, .null, .null, .null, .null, .null, .null, .int 0, .int 0, .null, .null, .null, .null, .int 0, .int 0, .int 0, .int 0, .int 0, .null, .null, .null, .null, .int 0, .null, .null, .null, .null, .int 0, .null, .null, .null, .null, .int 0, .null, .null, .null, .null, .null, .null, .int 0, .int 0, .int 0, .int 0, .int 0, .int 0, .int 0, .int 0, .int 0, .int 0, .null, .int 0, .null, .int 0, .null, .int 0, .null, .int 0, .int 0, .int 0, .int 0, .int 0, .int 0, .int 0, .int 0, .int 0, .int 0, .null, .int 0, .null, .null, .int 0]))] H := ⟨hP, hD⟩
  have hP := hR9.1
  have hD := hR9.2
  refine W.widen (k := 65) (n := 122858) (by decide +kernel) (by decide +kernel) ?_
  refine lv_dup hx hb dL_law_11 rfl ?_
  refine pq_cv (wr := [(q1, .inr (10, [.ref (u2.1 0), .ref (u2.1 1), .ref (u2.1 2), .ref (u2.1 20), .ref (u2.1 21), .ref (u2.1 16), .ref (u2.1 17), .ref (u2.1 22), .ref (u2.1 23), .ref (u2.1 18), .ref (u2.1 24), .ref (u2.1 25), .ref (u2.1 19), .int 0, .int 0, .int (-1), .int 0, .int 0, .int 0])), ((u2.1 0), .inl (cB, 3000, .inl (fun _ => 0))), ((u2.1 1), .inr (8, [.ref (u2.1 26), .ref (u2.1 27), .ref (u2.1 28), .ref (u2.1 29), .ref (u2.1 30), .int 2, .int 1802])), ((u2.1 2), .inr (1, [.ref (u2.1 3), .ref (u2.1 4), .ref (u2.1 5), .ref (u2.1 6), .ref (u2.1 7), .ref (u2.1 8), .ref (u2.1 9), .ref (u2.1 31), .ref (u2.1 10), .int 0, .int 1700, .int 0])), ((u2.1 3), .inl (cI, 4610, .inl (fun _ => 0))), ((u2.1 4), .inl (cI, 4610, .inl (fun _ => 0))), ((u2.1 5), .inl (cI, 4610, .inl (fun _ => 0))), ((u2.1 6), .inl (cI, 4610, .inl (fun _ => 0))), ((u2.1 7), .inl (cI, 4610, .inl (fun _ => 0))), ((u2.1 8), .inl (cI, 4610, .inl (fun _ => 0))), ((u2.1 9), .inl (cJ, 4610, .inr (.inl (fun _ => 0)))), ((u2.1 10), .inl (cI, 2, .inl (fun _ => 0))), ((u2.1 11), .inr (2, [.ref (u2.1 0), .ref (u2.1 32), .ref (u2.1 12), .ref (u2.1 13), .ref (u2.1 14), .ref (u2.1 15), .int 0, .int 0, .int 0, .int 0, .int 0, .long 0])), ((u2.1 12), .inl (cI, 801, .inl (fun _ => 0))), ((u2.1 13), .inl (cI, 801, .inl (fun _ => 0))), ((u2.1 14), .inl (cI, 801, .inl (fun _ => 0))), ((u2.1 15), .inl (cJ, 801, .inr (.inl (fun _ => 0)))), ((u2.1 16), .inr (5, [.ref (u2.1 11), .ref (u2.1 2), .ref (u2.1 1), .int 0, .int 0, .int 0, .int 0, .int 0, .int 0, .long 0, .int 0])), ((u2.1 17), .inr (7, [.ref (u2.1 2), .ref (u2.1 1), .ref (u2.1 33), .ref (u2.1 34), .ref (u2.1 35), .ref (u2.1 36), .ref (u2.1 37), .int 0, .int 0, .int 0, .int 0, .int 0])), ((u2.1 18), .inr (9, [.ref (u2.1 2), .ref (u2.1 1), .ref (u2.1 20), .ref (u2.1 21), .ref (u2.1 38), .int 0, .int 0, .int 0])), ((u2.1 19), .inl (cI, 8, .inl (upd (upd (upd (upd (upd (upd (upd (upd (fun _ => 0) 0 (-1)) 1 0) 2 0) 3 0) 4 (-1)) 5 0) 6 0) 7 0)))]) (W1 := (fun u => [(q3, .inr (11, mo0 u.1)), ((u.1 0), .inl (cI, 3000, .inl (fun _ => 0))), ((u.1 2), .inl (cI, 3002, .inl (fun _ => 0))), ((u.1 3), .inl (cI, 3002, .inl (fun _ => 0))), ((u.1 4), .inl (cI, 3002, .inl (fun _ => 0))), ((u.1 5), .inl (cJ, 3002, .inr (.inl (fun _ => 0))))])) (va_runI (As := []) (rest := [.ref q3]) ⟨hx, hb, hml, hown, hts⟩ (cq_X11_init l dC dI cB cI cJ cZ q3 aK2 aV2 bq sv H.size hsv (fun _ _ => rfl)) (cwI 0 hts gq_law_X11_init rfl rfl rfl (hts (Cond.initialized RX11) (List.mem_of_getElem? (i := 18) rfl)) (hts (Cond.methodLink RL 12 yX11_init) (List.mem_of_getElem? (i := 567) rfl)) (hts (Cond.instanceMethod yX11_init) (List.mem_of_getElem? (i := 568) rfl)) rfl (by decide +kernel) ⟨(by decide +kernel), (by decide +kernel)⟩) ⟨pq_blindS, pq_preS hK hP hD hS hA hR2 hF2 [21] rfl rfl⟩ rfl rfl hl.1 rfl (lv_room (Nat.le_of_ble_eq_true rfl)) dL_law_12 ⟨(by decide +kernel), (by decide +kernel)⟩) hP hD hS hA [21] [0, 1, 2, 3, 4, 5, 6, 7, 8, 9, 10, 11, 12, 13, 14, 15, 16, 17, 18, 19, 20] rfl rfl rfl (by decide) (fun u4 H locs hw hP hD hS => ?_)
  have hR9 : pq_R (dC, dI) vwCl (fun q : Nat => s.heap.size ≤ q) [(q1, .inr (10, [.ref (u2.1 0), .ref (u2.1 1), .ref (u2.1 2), .ref (u2.1 20), .ref (u2.1 21), .ref (u2.1 16), .ref (u2.1 17), .ref (u2.1 22), .ref (u2.1 23), .ref (u2.1 18), .ref (u2.1 24), .ref (u2.1 25), .ref (u2.1 19), .int 0, .int 0, .int (-1), .int 0, .int 0, .int 0])), ((u2.1 0), .inl (cB, 3000, .inl (fun _ => 0))), ((u2.1 1), .inr (8, [.ref (u2.1 26), .ref (u2.1 27), .ref (u2.1 28), .ref (u2.1 29), .ref (u2.1 30), .int 2, .int 1802])), ((u2.1 2), .inr (1, [.ref (u2.1 3), .ref (u2.1 4), .ref (u2.1 5), .ref (u2.1 6), .ref (u2.1 7), .ref (u2.1 8), .ref (u2.1 9), .ref (u2.1 31), .ref (u2.1 10), .int 0, .int 1700, .int 0])), ((u2.1 3), .inl (cI, 4610, .inl (fun _ => 0))), ((u2.1 4), .inl (cI, 4610, .inl (fun _ => 0))), ((u2.1 5), .inl (cI, 4610, .inl (fun _ => 0))), ((u2.1 6), .inl (cI, 4610, .inl (fun _ => 0))), ((u2.1 7), .inl (cI, 4610, .inl (fun _ => 0))), ((u2.1 8), .inl (cI, 4610, .inl (fun _ => 0))), ((u2.1 9), .inl (cJ, 4610, .inr (.inl (fun _ => 0)))), ((u2.1 10), .inl (cI, 2, .inl (fun _ => 0))), ((u2.1 11), .inr (2, [.ref (u2.1 0), .ref (u2.1 32), .ref (u2.1 12), .ref (u2.1 13), .ref (u2.1 14), .ref (u2.1 15), .int 0, .int 0, .int 0, .int 0, .int 0, .long 0])), ((u2.1 12), .inl (cI, 801, .inl (fun _ => 0))), ((u2.1 13), .inl (cI, 801, .inl (fun _ => 0))), ((u2.1 14), .inl (cI, 801, .inl (fun _ => 0))), ((u2.1 15), .inl (cJ, 801, .inr (.inl (fun _ => 0)))), ((u2.1 16), .inr (5, [.ref (u2.1 11), .ref (u2.1 2), .ref (u2.1 1), .int 0, .int 0, .int 0, .int 0, .int 0, .int 0, .long 0, .int 0])), ((u2.1 17), .inr (7, [.ref (u2.1 2), .ref (u2.1 1), .ref (u2.1 33), .ref (u2.1 34), .ref (u2.1 35), .ref (u2.1 36), .ref (u2.1 37), .int 0, .int 0, .int 0, .int 0, .int 0])), ((u2.1 18), .inr (9, [.ref (u2.1 2), .ref (u2.1 1), .ref (u2.1 20), .ref (u2.1 21), .ref (u2.1 38), .int 0, .int 0, .int 0])), ((u2.1 19), .inl (cI, 8, .inl (upd (upd (upd (upd (upd (upd (upd (upd (fun _ => 0) 0 (-1)) 1 0) 2 0) 3 0) 4 (-1)) 5 0) 6 0) 7 0))), (q3, .inr (11, mo0 u4.1)), ((u4.1 0), .inl (cI, 3000, .inl (fun _ => 0))), ((u4.1 2), .inl (cI, 3002, .inl (fun _ => 0))), ((u4.1 3), .inl (cI, 3002, .inl (fun _ => 0))), ((u4.1 4), .inl (cI, 3002, .inl (fun _ => 0))), ((u4.1 5), .inl (cJ, 3002, .inr (.inl (fun _ => 0))))] H := ⟨hP, hD⟩
  have hP := hR9.1
  have hD := hR9.2
  refine W.widen (k := 135) (n := 830893) (by decide +kernel) (by decide +kernel) ?_
  refine lv_astore_n (lv' := [(2, .ref q3), (1, .ref q1), (0, .ref b)]) hx hb dL_law_15 rfl hl (by decide) rfl (fun ls hl => ?_)
  refine lv_iconst (v := 0) hx hb dL_law_16 (by decide) ?_
  refine lv_istore_n (lv' := [(3, .int 0), (2, .ref q3), (1, .ref q1), (0, .ref b)]) hx hb dL_law_17 rfl hl (by decide) rfl (fun ls hl => ?_)
  exact law_body (q1 := q1) (q2 := q3) (u1 := u2) (u2 := u4) hL C0 hK (pq_P.pick hP [0, 1, 2, 3, 4, 5, 6, 7, 8, 9, 10, 11, 12, 13, 14, 15, 16, 17, 18, 19, 20, 21, 22, 23, 24, 25, 26] rfl) (hD.sub [0, 1, 2, 3, 4, 5, 6, 7, 8, 9, 10, 11, 12, 13, 14, 15, 16, 17, 18, 19, 20, 21, 22, 23, 24, 25, 26] (by decide) rfl) hS (lv_sub hl [0, 1, 2, 3] rfl)
set_option maxHeartbeats 4000000 in
theorem lw_walk (l : Launch) (b : Addr) (xs : List Int32) : MetFree l x (headSpec (Jvm.Cond.code x code maxLocals ret :: tables_1) room_1) (lw_P b xs) (fun _ _ _ _ _ => True) lw_Q := by
  refine MetFree.of_bodyS (code := code) (maxLocals := maxLocals) (ret := ret) (by decide) ?_ ?_
  · intro args s m h hn
    obtain ⟨meth, c, h1, h2, h3, h4, h5, h6, -, -⟩ := Cond.code_spec hn (atoms_spec (ws := Jvm.Cond.code x code maxLocals ret :: tables_1) h _ List.mem_cons_self)
    exact ⟨meth, c, h1, h2, h3, h4, h5, h6⟩
  · intro p e s m args below meth c s₁ B hml0 hP _
    obtain ⟨rfl, hx, hbd, hgv⟩ := hP
    obtain ⟨scr, harrAt, hlist, hof, hsmall⟩ := hx
    obtain ⟨hcb, hkn, -, -⟩ := State.arrayAt?_spec harrAt
    have hown : s.vm.findClass R_law = some m.cls := findClass_of_methodNamed B.named
    have hts0 : ∀ c ∈ (Jvm.Cond.code x code maxLocals ret :: tables_1), c.before #[Value.ref b] s = true := atoms_spec (ws := Jvm.Cond.code x code maxLocals ret :: tables_1) B.pre
    have hts : ∀ w ∈ lw_tbl, w.before #[Value.ref b] s = true := k2_hts_sels lw_privs (fun w hw => hts0 w (List.mem_cons_of_mem _ hw)) lw_privs_ok
    have hml : c.maxLocals = 4 := B.maxLocals_eq (hts0 _ List.mem_cons_self)
    have X₀ : Stand p l e room_1 s m #[Value.ref b] below meth c s₁ [] 0 0 := Stand.of_body B
    have hh0 : s₁.heap = s.heap := by rw [B.state]; rfl
    have hsz : scr.slots.size = xs.length := by rw [← Array.length_toList, hlist, List.length_map]
    have hval : ∀ j : Nat, j < xs.length → scr.slots[j]? = some (.int (xs.getD j 0)) := fun j hj => by
      rw [← Array.getElem?_toList, hlist]
      simp [hj]
    have hbl : b < s.heap.size := (Array.getElem?_eq_some_iff.mp hcb).1
    have hX : va_X b xs.length (fun j => xs.getD j 0) s s.heap := ⟨scr, hcb, hof, hkn, hsz, hval⟩
    have K : W p l e room_1 s m #[Value.ref b] below meth c s₁.heap [] 0 0 (lw_Z below #[Value.ref b] s) (entryFrame m ([Value.ref b] : List Value).toArray 4) := by
      rw [hh0]
      exact whole_start l hbd ⟨B.exec, B.bytes, B.returns, hml, hown, hts, hX, hbl, B.notSynchronized, hgv⟩
    obtain ⟨t, a1, o, b1, b2, b3⟩ := K s₁ rfl X₀
    exact ⟨t, o, a1, b1, b2, b3⟩
theorem lw_pre_spec {args : Array Value} {s : State} (h : (Jvm.Cond.and given_1 narrow_1).before args s = true) (hr : rest_1_c.before args s = true) : ∃ (b : Addr) (xs : List Int32), lw_P b xs args s := by
  have hs := flat_of_before _ h
  have hq := flat_of_before _ hr
  have hc : (Cond.count 1).before args s = true := hs _ (by decide +kernel)
  have harr : (Cond.arrayOf (.arg 0) .int).before args s = true := hs _ (by decide +kernel)
  have hle : (Cond.le (.length (.arg 0)) (.int 6)).before args s = true := hs _ (by decide +kernel)
  have hlen : (Cond.isInt (.length (.arg 0))).before args s = true := hq _ (by decide +kernel)
  have hall : (Cond.all (.arg 0) (.isInt (.elem (.arg 0) (.index 0)))).before args s = true := hq _ (by decide +kernel)
  obtain ⟨b, xs, hb, hx⟩ := State.ints_of_pre rfl harr hlen hall
  have hsm : xs.length < 2 ^ 31 := hx.choose_spec.2.2.2
  have hev : (Term.length (.arg 0)).eval args s none [] s = some (.int xs.length.toInt32) := hx.length_eval hb
  have hv := Cond.le_ints hev (show (Term.int 6).eval args s none [] s = some (.int 6) from rfl)
  have hd : xs.length.toInt32 ≤ 6 := by
    simpa [Cond.before, Cond.holds, hv] using hle
  have hN : xs.length ≤ 6 := (Int32.ofNat_le_ofNat hsm (by decide)).mp (show Int32.ofNat xs.length ≤ Int32.ofNat 6 from hd)
  exact ⟨b, xs, Cond.one_arg hc (show args[0]? = some (.ref b) from hb), hx, hN, h⟩
theorem lw_comes (l : Launch) : Comes l x (Jvm.Cond.code x code maxLocals ret :: tables_1) room_1 (fun tb e args s => Calls_1 tb e args s ∧ rest_1 tb e args s ∧ Pre_1 tb e args s)
    (fun _ _ args s o t => lw_Q args s o t) := by
  intro p e ha hc hk s m args below hf hfit hheap happ hpre
  obtain ⟨b, xs, hP⟩ := lw_pre_spec hpre.2.2 hpre.2.1
  obtain ⟨k, o, h1, h2, h3, hQ⟩ := lw_walk l b xs p e ha hc hk s m args below hf ((Spec.applies_iff_loose hf).mp happ).1 hP trivial
  exact ⟨k, o, h1, h2, h3, hQ⟩
theorem lw_frame {s t : State} {o : Outcome} {args : Array Value} (h : Framed s o t [] 600000 7302250) :
    Framed s o t (fieldLocs frame_1_writes args s ++ arrayLocs frame_1_arrays args s ++ staticLocs frame_1_statics s) 600000 7302250 := h
theorem lw_limb (L : Cond) (hL : ∀ (args : Array Value) (s t : State), L.after args s (.returned (some (.int 1))) t = true) :
    ArmFor flags0 classFile x code maxLocals ret World_1 tables_1 room_1 Calls_1 rest_1 Pre_1
      (fun tb e a s o t => postC L tb e a s o t ∧ Framed s o t (fieldLocs frame_1_writes a s ++ arrayLocs frame_1_arrays a s ++ staticLocs frame_1_statics s) 600000 7302250) := by
  intro l _ _ _ p e ha hc hk s m args below hf hfit hheap happ hpre
  obtain ⟨k, o, h1, h2, h3, rfl, hF⟩ := lw_comes l p e ha hc hk s m args below hf hfit hheap happ hpre
  exact ⟨k, _, h1, h2, h3, hL args s _, lw_frame hF⟩
theorem i_vc : Claimed_1_1 ∧ Claimed_1_2 := ⟨lw_limb limb_1_1 (fun args s t => by simp [limb_1_1, Cond.after, Cond.holds, Cond.value]), lw_limb limb_1_2 (fun args s t => Cond.after_iff.mpr (by
  first | (rw [show limb_1_2 = Cond.eq .result (.int 1) from rfl, Cond.eq_ints (x := 1) (y := 1) rfl rfl]; simp; done) | (simp [limb_1_2, Cond.value, Term.eval]; done)))⟩

