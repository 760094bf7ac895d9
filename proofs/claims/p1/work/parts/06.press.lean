def wq_X10_feedFour_r1 : List Cond := [Cond.fieldLink RX10 105 "CodePress" "tapeSize" "I", Cond.fieldLink RX10 9 "CodePress" "tape" "[B"]
def wq_X10_feedFour : List Cond := Cond.code yX10_feedFour cX10_feedFour 3 none :: (wq_X10_feedFour_r1 ++ wsX100)
theorem iq_X10_feedFour_X10 : ∀ w ∈ wsX100, w ∈ wq_X10_feedFour := fun _ h => List.mem_cons_of_mem _ (List.mem_append_right _ h)
set_option maxHeartbeats 4000000 in
set_option maxRecDepth 100000 in
theorem cq_X10_feedFour (l : Launch) (dC : Nat → ClassId) (dI : Nat → Nat → Nat) (cB cI cJ cZ : ClassId) (h0 : Nat) (fa0 : Nat → Nat) (x0 : Int32) (sz : Nat) : Met l yX10_feedFour wq_X10_feedFour ({ frames := 0, cells := 0, slots := 0, locals := 0 }) (va_Pc [.ref h0, .int x0] (pq_W (dC, dI) vwCl (tyQ cB cI cJ cZ) [(h0, .inr (10, [.ref (fa0 0), .ref (fa0 1), .ref (fa0 2), .ref (fa0 20), .ref (fa0 21), .ref (fa0 16), .ref (fa0 17), .ref (fa0 22), .ref (fa0 23), .ref (fa0 18), .ref (fa0 24), .ref (fa0 25), .ref (fa0 19), .int 0, .int 0, .int (-1), .int 0, .int 0, .int 0])), ((fa0 0), .inl (cB, 3000, .inl (fun _ => 0)))] sz)) (va_Qv (fun (_ : SQ) => True) (fun u => pq_B (dC, dI) vwCl [(h0, .inr (10, [.ref (fa0 0), .ref (fa0 1), .ref (fa0 2), .ref (fa0 20), .ref (fa0 21), .ref (fa0 16), .ref (fa0 17), .ref (fa0 22), .ref (fa0 23), .ref (fa0 18), .ref (fa0 24), .ref (fa0 25), .ref (fa0 19), .int 4, .int 0, .int (-1), .int 0, .int 0, .int 0])), ((fa0 0), .inl (cB, 3000, .inl (upd (upd (upd (upd (fun _ => 0) 0 (vp_nar .byte ((x0 >>> (24 &&& 31)).toInt8.toInt32))) 1 (vp_nar .byte ((x0 >>> (16 &&& 31)).toInt8.toInt32))) 2 (vp_nar .byte ((x0 >>> (8 &&& 31)).toInt8.toInt32))) 3 (vp_nar .byte ((x0 >>> (0 &&& 31)).toInt8.toInt32)))))] (va_A [(h0, .inr (10, [.ref (fa0 0), .ref (fa0 1), .ref (fa0 2), .ref (fa0 20), .ref (fa0 21), .ref (fa0 16), .ref (fa0 17), .ref (fa0 22), .ref (fa0 23), .ref (fa0 18), .ref (fa0 24), .ref (fa0 25), .ref (fa0 19), .int 0, .int 0, .int (-1), .int 0, .int 0, .int 0])), ((fa0 0), .inl (cB, 3000, .inl (fun _ => 0)))] sz)) (va_A [(h0, .inr (10, [.ref (fa0 0), .ref (fa0 1), .ref (fa0 2), .ref (fa0 20), .ref (fa0 21), .ref (fa0 16), .ref (fa0 17), .ref (fa0 22), .ref (fa0 23), .ref (fa0 18), .ref (fa0 24), .ref (fa0 25), .ref (fa0 19), .int 0, .int 0, .int (-1), .int 0, .int 0, .int 0])), ((fa0 0), .inl (cB, 3000, .inl (fun _ => 0)))] sz)) 0 0 (va_A [(h0, .inr (10, [.ref (fa0 0), .ref (fa0 1), .ref (fa0 2), .ref (fa0 20), .ref (fa0 21), .ref (fa0 16), .ref (fa0 17), .ref (fa0 22), .ref (fa0 23), .ref (fa0 18), .ref (fa0 24), .ref (fa0 25), .ref (fa0 19), .int 0, .int 0, .int (-1), .int 0, .int 0, .int 0])), ((fa0 0), .inl (cB, 3000, .inl (fun _ => 0)))] sz) := by
  refine Met.ofW (cc := cX10_feedFour) (maxL := 3) (ret := none) (by decide) rfl ?_
  intro p e s m args below meth c s₁ B hml hv
  obtain ⟨rfl, hsz, hP, hK, hD0⟩ := hv
  have hx := B.exec
  have hb := B.bytes
  have hr := B.returns
  have hts := atoms_spec (ws := wq_X10_feedFour) B.pre
  have hown : s.vm.findClass RX10 = some m.cls := findClass_of_methodNamed B.named
  have hlocks := B.notSynchronized
  subst hsz
  have hD := hD0.self (sz := s.heap.size)
  generalize hAe : va_A [(h0, .inr (10, [.ref (fa0 0), .ref (fa0 1), .ref (fa0 2), .ref (fa0 20), .ref (fa0 21), .ref (fa0 16), .ref (fa0 17), .ref (fa0 22), .ref (fa0 23), .ref (fa0 18), .ref (fa0 24), .ref (fa0 25), .ref (fa0 19), .int 0, .int 0, .int (-1), .int 0, .int 0, .int 0])), ((fa0 0), .inl (cB, 3000, .inl (fun _ => 0)))] s.heap.size = A at hD ⊢
  have hA : ∀ q : Nat, s.heap.size ≤ q → A q := fun q h => by rw [← hAe]; exact Or.inr h
  have hS : va_S A s.heap s.heap [] := va_S.rf
  have hP : va_P (dC, dI) vwCl [(h0, .inr (10, [.ref (fa0 0), .ref (fa0 1), .ref (fa0 2), .ref (fa0 20), .ref (fa0 21), .ref (fa0 16), .ref (fa0 17), .ref (fa0 22), .ref (fa0 23), .ref (fa0 18), .ref (fa0 24), .ref (fa0 25), .ref (fa0 19), .int 0, .int 0, .int (-1), .int 0, .int 0, .int 0])), ((fa0 0), .inl (cB, 3000, .inl (fun _ => 0)))] s.heap := hP
  obtain ⟨H, hH⟩ : ∃ H, H = s.heap := ⟨_, rfl⟩
  rw [← hH] at hP
  have hS : va_S A s.heap H [] := by rw [hH]; exact hS
  have hl := lv_entry ([.ref h0, .int x0]) (n := 3) (Nat.le_of_ble_eq_true rfl)
  rw [lg_entry_eq]
  generalize (lg_sl ([.ref h0, .int x0]) ++ List.replicate (3 - (lg_sl ([.ref h0, .int x0])).length) Slot.unset).toArray = ls at hl ⊢
  have hl : lv_has ls 3 [(0, .ref h0), (1, .int x0)] := hl
  refine pq_heap hH ?_
  refine lv_bipush (v := 24) hx hb dX10_feedFour_0 (by decide) ?_
  refine lv_istore_n (lv' := [(2, .int 24), (0, .ref h0), (1, .int x0)]) hx hb dX10_feedFour_2 rfl hl (by decide) rfl (fun ls hl => ?_)
  refine lv_iload_n hx hb dX10_feedFour_3 rfl (lv_at hl 0 rfl) ?_
  refine lv_if_lt (tgt := 46) hx hb dX10_feedFour_4 (by decide) (fun c_ => absurd c_ (by decide)) (fun _ => ?_)
  refine lv_aload_n hx hb dX10_feedFour_7 rfl (lv_at hl 1 rfl) ?_
  refine va_get (D := (dC, dI)) (ci := 10) (v := .int 0) (C := RX10) (T := TX10) (N := 19) hx hb hts iq_X10_feedFour_X10 hown hK hP 0 rfl rfl 13 (by decide) (hts (Cond.fieldLink RX10 105 "CodePress" "tapeSize" "I") (List.mem_of_getElem? (i := 1) rfl)) (fun _ h9 => h9) rfl dX10_feedFour_8 ?_
  refine lv_sipush (v := 3000) hx hb dX10_feedFour_11 (by decide) ?_
  refine lv_icmp_ge (tgt := 40) hx hb dX10_feedFour_14 (by decide) (fun c_ => absurd c_ (by decide)) (fun _ => ?_)
  refine lv_aload_n hx hb dX10_feedFour_17 rfl (lv_at hl 1 rfl) ?_
  refine va_get (D := (dC, dI)) (ci := 10) (v := .ref (fa0 0)) (C := RX10) (T := TX10) (N := 19) hx hb hts iq_X10_feedFour_X10 hown hK hP 0 rfl rfl 0 (by decide) (hts (Cond.fieldLink RX10 9 "CodePress" "tape" "[B") (List.mem_of_getElem? (i := 2) rfl)) (fun _ h9 => h9) rfl dX10_feedFour_18 ?_
  refine lv_aload_n hx hb dX10_feedFour_21 rfl (lv_at hl 1 rfl) ?_
  refine va_get (D := (dC, dI)) (ci := 10) (v := .int 0) (C := RX10) (T := TX10) (N := 19) hx hb hts iq_X10_feedFour_X10 hown hK hP 0 rfl rfl 13 (by decide) (hts (Cond.fieldLink RX10 105 "CodePress" "tapeSize" "I") (List.mem_of_getElem? (i := 1) rfl)) (fun _ h9 => h9) rfl dX10_feedFour_22 ?_
  refine lv_iload_n hx hb dX10_feedFour_25 rfl (lv_at hl 2 rfl) ?_
  refine lv_iload_n hx hb dX10_feedFour_26 rfl (lv_at hl 0 rfl) ?_
  refine lv_ishr hx hb dX10_feedFour_27 ?_
  refine lv_i2b (v := (x0 >>> (24 &&& 31)).toInt8.toInt32) hx hb dX10_feedFour_28 rfl ?_
  refine va_bast hx hb hK hP hD hS 1 0 rfl rfl (pq_in (by decide)) dX10_feedFour_29 (fun H locs hP hD hS => ?_)
  have hR9 : pq_R (dC, dI) vwCl A [(h0, .inr (10, [.ref (fa0 0), .ref (fa0 1), .ref (fa0 2), .ref (fa0 20), .ref (fa0 21), .ref (fa0 16), .ref (fa0 17), .ref (fa0 22), .ref (fa0 23), .ref (fa0 18), .ref (fa0 24), .ref (fa0 25), .ref (fa0 19), .int 0, .int 0, .int (-1), .int 0, .int 0, .int 0])), ((fa0 0), .inl (cB, 3000, .inl (upd (fun _ => 0) 0 (vp_nar .byte ((x0 >>> (24 &&& 31)).toInt8.toInt32)))))] H := ⟨hP, hD⟩
  have hP := hR9.1
  have hD := hR9.2
  refine lv_aload_n hx hb dX10_feedFour_30 rfl (lv_at hl 1 rfl) ?_
  refine lv_dup hx hb dX10_feedFour_31 rfl ?_
  refine va_get (D := (dC, dI)) (ci := 10) (v := .int 0) (C := RX10) (T := TX10) (N := 19) hx hb hts iq_X10_feedFour_X10 hown hK hP 0 rfl rfl 13 (by decide) (hts (Cond.fieldLink RX10 105 "CodePress" "tapeSize" "I") (List.mem_of_getElem? (i := 1) rfl)) (fun _ h9 => h9) rfl dX10_feedFour_32 ?_
  refine lv_iconst (v := 1) hx hb dX10_feedFour_35 (by decide) ?_
  refine lv_iadd hx hb dX10_feedFour_36 ?_
  refine lv_topi (fun x1 ex1 => ?_)
  obtain rfl : x1 = 1 := ex1.trans (by decide)
  refine va_put (D := (dC, dI)) (ci := 10) (v := .int 1) (ty := .int) (C := RX10) (T := TX10) (N := 19) hx hb hts iq_X10_feedFour_X10 tyX10 tyX10_ok nmX10 hown hK hP hD hS 0 rfl rfl 13 (by decide) (hts (Cond.fieldLink RX10 105 "CodePress" "tapeSize" "I") (List.mem_of_getElem? (i := 1) rfl)) (fun _ h9 => h9) rfl (by decide +kernel) rfl rfl (Nat.le_of_ble_eq_true rfl) dX10_feedFour_37 (fun H locs hP hD hS => ?_)
  have hR9 : pq_R (dC, dI) vwCl A [(h0, .inr (10, [.ref (fa0 0), .ref (fa0 1), .ref (fa0 2), .ref (fa0 20), .ref (fa0 21), .ref (fa0 16), .ref (fa0 17), .ref (fa0 22), .ref (fa0 23), .ref (fa0 18), .ref (fa0 24), .ref (fa0 25), .ref (fa0 19), .int 1, .int 0, .int (-1), .int 0, .int 0, .int 0])), ((fa0 0), .inl (cB, 3000, .inl (upd (fun _ => 0) 0 (vp_nar .byte ((x0 >>> (24 &&& 31)).toInt8.toInt32)))))] H := ⟨hP, hD⟩
  have hP := hR9.1
  have hD := hR9.2
  refine lv_iinc (v := 16) (lv' := [(2, .int 16), (0, .ref h0), (1, .int x0)]) hx hb dX10_feedFour_40 hl (k := 0) rfl (by decide) (by decide) rfl (fun ls hl => ?_)
  refine lv_goto (tgt := 3) hx hb dX10_feedFour_43 (by decide) ?_
  refine lv_iload_n hx hb dX10_feedFour_3 rfl (lv_at hl 0 rfl) ?_
  refine lv_if_lt (tgt := 46) hx hb dX10_feedFour_4 (by decide) (fun c_ => absurd c_ (by decide)) (fun _ => ?_)
  refine lv_aload_n hx hb dX10_feedFour_7 rfl (lv_at hl 1 rfl) ?_
  refine va_get (D := (dC, dI)) (ci := 10) (v := .int 1) (C := RX10) (T := TX10) (N := 19) hx hb hts iq_X10_feedFour_X10 hown hK hP 0 rfl rfl 13 (by decide) (hts (Cond.fieldLink RX10 105 "CodePress" "tapeSize" "I") (List.mem_of_getElem? (i := 1) rfl)) (fun _ h9 => h9) rfl dX10_feedFour_8 ?_
  refine lv_sipush (v := 3000) hx hb dX10_feedFour_11 (by decide) ?_
  refine lv_icmp_ge (tgt := 40) hx hb dX10_feedFour_14 (by decide) (fun c_ => absurd c_ (by decide)) (fun _ => ?_)
  refine lv_aload_n hx hb dX10_feedFour_17 rfl (lv_at hl 1 rfl) ?_
  refine va_get (D := (dC, dI)) (ci := 10) (v := .ref (fa0 0)) (C := RX10) (T := TX10) (N := 19) hx hb hts iq_X10_feedFour_X10 hown hK hP 0 rfl rfl 0 (by decide) (hts (Cond.fieldLink RX10 9 "CodePress" "tape" "[B") (List.mem_of_getElem? (i := 2) rfl)) (fun _ h9 => h9) rfl dX10_feedFour_18 ?_
  refine lv_aload_n hx hb dX10_feedFour_21 rfl (lv_at hl 1 rfl) ?_
  refine va_get (D := (dC, dI)) (ci := 10) (v := .int 1) (C := RX10) (T := TX10) (N := 19) hx hb hts iq_X10_feedFour_X10 hown hK hP 0 rfl rfl 13 (by decide) (hts (Cond.fieldLink RX10 105 "CodePress" "tapeSize" "I") (List.mem_of_getElem? (i := 1) rfl)) (fun _ h9 => h9) rfl dX10_feedFour_22 ?_
  refine lv_iload_n hx hb dX10_feedFour_25 rfl (lv_at hl 2 rfl) ?_
  refine lv_iload_n hx hb dX10_feedFour_26 rfl (lv_at hl 0 rfl) ?_
  refine lv_ishr hx hb dX10_feedFour_27 ?_
  refine lv_i2b (v := (x0 >>> (16 &&& 31)).toInt8.toInt32) hx hb dX10_feedFour_28 rfl ?_
  refine va_bast hx hb hK hP hD hS 1 0 rfl rfl (pq_in (by decide)) dX10_feedFour_29 (fun H locs hP hD hS => ?_)
  have hR9 : pq_R (dC, dI) vwCl A [(h0, .inr (10, [.ref (fa0 0), .ref (fa0 1), .ref (fa0 2), .ref (fa0 20), .ref (fa0 21), .ref (fa0 16), .ref (fa0 17), .ref (fa0 22), .ref (fa0 23), .ref (fa0 18), .ref (fa0 24), .ref (fa0 25), .ref (fa0 19), .int 1, .int 0, .int (-1), .int 0, .int 0, .int 0])), ((fa0 0), .inl (cB, 3000, .inl (upd (upd (fun _ => 0) 0 (vp_nar .byte ((x0 >>> (24 &&& 31)).toInt8.toInt32))) 1 (vp_nar .byte ((x0 >>> (16 &&& 31)).toInt8.toInt32)))))] H := ⟨hP, hD⟩
  have hP := hR9.1
  have hD := hR9.2
  refine lv_aload_n hx hb dX10_feedFour_30 rfl (lv_at hl 1 rfl) ?_
  refine lv_dup hx hb dX10_feedFour_31 rfl ?_
  refine va_get (D := (dC, dI)) (ci := 10) (v := .int 1) (C := RX10) (T := TX10) (N := 19) hx hb hts iq_X10_feedFour_X10 hown hK hP 0 rfl rfl 13 (by decide) (hts (Cond.fieldLink RX10 105 "CodePress" "tapeSize" "I") (List.mem_of_getElem? (i := 1) rfl)) (fun _ h9 => h9) rfl dX10_feedFour_32 ?_
  refine lv_iconst (v := 1) hx hb dX10_feedFour_35 (by decide) ?_
  refine lv_iadd hx hb dX10_feedFour_36 ?_
  refine lv_topi (fun x2 ex2 => ?_)
  obtain rfl : x2 = 2 := ex2.trans (by decide)
  refine va_put (D := (dC, dI)) (ci := 10) (v := .int 2) (ty := .int) (C := RX10) (T := TX10) (N := 19) hx hb hts iq_X10_feedFour_X10 tyX10 tyX10_ok nmX10 hown hK hP hD hS 0 rfl rfl 13 (by decide) (hts (Cond.fieldLink RX10 105 "CodePress" "tapeSize" "I") (List.mem_of_getElem? (i := 1) rfl)) (fun _ h9 => h9) rfl (by decide +kernel) rfl rfl (Nat.le_of_ble_eq_true rfl) dX10_feedFour_37 (fun H locs hP hD hS => ?_)
  have hR9 : pq_R (dC, dI) vwCl A [(h0, .inr (10, [.ref (fa0 0), .ref (fa0 1), .ref (fa0 2), .ref (fa0 20), .ref (fa0 21), .ref (fa0 16), .ref (fa0 17), .ref (fa0 22), .ref (fa0 23), .ref (fa0 18), .ref (fa0 24), .ref (fa0 25), .ref (fa0 19), .int 2, .int 0, .int (-1), .int 0, .int 0, .int 0])), ((fa0 0), .inl (cB, 3000, .inl (upd (upd (fun _ => 0) 0 (vp_nar .byte ((x0 >>> (24 &&& 31)).toInt8.toInt32))) 1 (vp_nar .byte ((x0 >>> (16 &&& 31)).toInt8.toInt32)))))] H := ⟨hP, hD⟩
  have hP := hR9.1
  have hD := hR9.2
  refine lv_iinc (v := 8) (lv' := [(2, .int 8), (0, .ref h0), (1, .int x0)]) hx hb dX10_feedFour_40 hl (k := 0) rfl (by decide) (by decide) rfl (fun ls hl => ?_)
  refine lv_goto (tgt := 3) hx hb dX10_feedFour_43 (by decide) ?_
  refine lv_iload_n hx hb dX10_feedFour_3 rfl (lv_at hl 0 rfl) ?_
  refine lv_if_lt (tgt := 46) hx hb dX10_feedFour_4 (by decide) (fun c_ => absurd c_ (by decide)) (fun _ => ?_)
  refine lv_aload_n hx hb dX10_feedFour_7 rfl (lv_at hl 1 rfl) ?_
  refine va_get (D := (dC, dI)) (ci := 10) (v := .int 2) (C := RX10) (T := TX10) (N := 19) hx hb hts iq_X10_feedFour_X10 hown hK hP 0 rfl rfl 13 (by decide) (hts (Cond.fieldLink RX10 105 "CodePress" "tapeSize" "I") (List.mem_of_getElem? (i := 1) rfl)) (fun _ h9 => h9) rfl dX10_feedFour_8 ?_
  refine lv_sipush (v := 3000) hx hb dX10_feedFour_11 (by decide) ?_
  refine lv_icmp_ge (tgt := 40) hx hb dX10_feedFour_14 (by decide) (fun c_ => absurd c_ (by decide)) (fun _ => ?_)
  refine lv_aload_n hx hb dX10_feedFour_17 rfl (lv_at hl 1 rfl) ?_
  refine va_get (D := (dC, dI)) (ci := 10) (v := .ref (fa0 0)) (C := RX10) (T := TX10) (N := 19) hx hb hts iq_X10_feedFour_X10 hown hK hP 0 rfl rfl 0 (by decide) (hts (Cond.fieldLink RX10 9 "CodePress" "tape" "[B") (List.mem_of_getElem? (i := 2) rfl)) (fun _ h9 => h9) rfl dX10_feedFour_18 ?_
  refine lv_aload_n hx hb dX10_feedFour_21 rfl (lv_at hl 1 rfl) ?_
  refine va_get (D := (dC, dI)) (ci := 10) (v := .int 2) (C := RX10) (T := TX10) (N := 19) hx hb hts iq_X10_feedFour_X10 hown hK hP 0 rfl rfl 13 (by decide) (hts (Cond.fieldLink RX10 105 "CodePress" "tapeSize" "I") (List.mem_of_getElem? (i := 1) rfl)) (fun _ h9 => h9) rfl dX10_feedFour_22 ?_
  refine lv_iload_n hx hb dX10_feedFour_25 rfl (lv_at hl 2 rfl) ?_
  refine lv_iload_n hx hb dX10_feedFour_26 rfl (lv_at hl 0 rfl) ?_
  refine lv_ishr hx hb dX10_feedFour_27 ?_
  refine lv_i2b (v := (x0 >>> (8 &&& 31)).toInt8.toInt32) hx hb dX10_feedFour_28 rfl ?_
  refine va_bast hx hb hK hP hD hS 1 0 rfl rfl (pq_in (by decide)) dX10_feedFour_29 (fun H locs hP hD hS => ?_)
  have hR9 : pq_R (dC, dI) vwCl A [(h0, .inr (10, [.ref (fa0 0), .ref (fa0 1), .ref (fa0 2), .ref (fa0 20), .ref (fa0 21), .ref (fa0 16), .ref (fa0 17), .ref (fa0 22), .ref (fa0 23), .ref (fa0 18), .ref (fa0 24), .ref (fa0 25), .ref (fa0 19), .int 2, .int 0, .int (-1), .int 0, .int 0, .int 0])), ((fa0 0), .inl (cB, 3000, .inl (upd (upd (upd (fun _ => 0) 0 (vp_nar .byte ((x0 >>> (24 &&& 31)).toInt8.toInt32))) 1 (vp_nar .byte ((x0 >>> (16 &&& 31)).toInt8.toInt32))) 2 (vp_nar .byte ((x0 >>> (8 &&& 31)).toInt8.toInt32)))))] H := ⟨hP, hD⟩
  have hP := hR9.1
  have hD := hR9.2
  refine lv_aload_n hx hb dX10_feedFour_30 rfl (lv_at hl 1 rfl) ?_
  refine lv_dup hx hb dX10_feedFour_31 rfl ?_
  refine va_get (D := (dC, dI)) (ci := 10) (v := .int 2) (C := RX10) (T := TX10) (N := 19) hx hb hts iq_X10_feedFour_X10 hown hK hP 0 rfl rfl 13 (by decide) (hts (Cond.fieldLink RX10 105 "CodePress" "tapeSize" "I") (List.mem_of_getElem? (i := 1) rfl)) (fun _ h9 => h9) rfl dX10_feedFour_32 ?_
  refine lv_iconst (v := 1) hx hb dX10_feedFour_35 (by decide) ?_
  refine lv_iadd hx hb dX10_feedFour_36 ?_
  refine lv_topi (fun x3 ex3 => ?_)
  obtain rfl : x3 = 3 := ex3.trans (by decide)
  refine va_put (D := (dC, dI)) (ci := 10) (v := .int 3) (ty := .int) (C := RX10) (T := TX10) (N := 19) hx hb hts iq_X10_feedFour_X10 tyX10 tyX10_ok nmX10 hown hK hP hD hS 0 rfl rfl 13 (by decide) (hts (Cond.fieldLink RX10 105 "CodePress" "tapeSize" "I") (List.mem_of_getElem? (i := 1) rfl)) (fun _ h9 => h9) rfl (by decide +kernel) rfl rfl (Nat.le_of_ble_eq_true rfl) dX10_feedFour_37 (fun H locs hP hD hS => ?_)
  have hR9 : pq_R (dC, dI) vwCl A [(h0, .inr (10, [.ref (fa0 0), .ref (fa0 1), .ref (fa0 2), .ref (fa0 20), .ref (fa0 21), .ref (fa0 16), .ref (fa0 17), .ref (fa0 22), .ref (fa0 23), .ref (fa0 18), .ref (fa0 24), .ref (fa0 25), .ref (fa0 19), .int 3, .int 0, .int (-1), .int 0, .int 0, .int 0])), ((fa0 0), .inl (cB, 3000, .inl (upd (upd (upd (fun _ => 0) 0 (vp_nar .byte ((x0 >>> (24 &&& 31)).toInt8.toInt32))) 1 (vp_nar .byte ((x0 >>> (16 &&& 31)).toInt8.toInt32))) 2 (vp_nar .byte ((x0 >>> (8 &&& 31)).toInt8.toInt32)))))] H := ⟨hP, hD⟩
  have hP := hR9.1
  have hD := hR9.2
  refine lv_iinc (v := 0) (lv' := [(2, .int 0), (0, .ref h0), (1, .int x0)]) hx hb dX10_feedFour_40 hl (k := 0) rfl (by decide) (by decide) rfl (fun ls hl => ?_)
  refine lv_goto (tgt := 3) hx hb dX10_feedFour_43 (by decide) ?_
  refine lv_iload_n hx hb dX10_feedFour_3 rfl (lv_at hl 0 rfl) ?_
  refine lv_if_lt (tgt := 46) hx hb dX10_feedFour_4 (by decide) (fun c_ => absurd c_ (by decide)) (fun _ => ?_)
  refine lv_aload_n hx hb dX10_feedFour_7 rfl (lv_at hl 1 rfl) ?_
  refine va_get (D := (dC, dI)) (ci := 10) (v := .int 3) (C := RX10) (T := TX10) (N := 19) hx hb hts iq_X10_feedFour_X10 hown hK hP 0 rfl rfl 13 (by decide) (hts (Cond.fieldLink RX10 105 "CodePress" "tapeSize" "I") (List.mem_of_getElem? (i := 1) rfl)) (fun _ h9 => h9) rfl dX10_feedFour_8 ?_
  refine lv_sipush (v := 3000) hx hb dX10_feedFour_11 (by decide) ?_
  refine lv_icmp_ge (tgt := 40) hx hb dX10_feedFour_14 (by decide) (fun c_ => absurd c_ (by decide)) (fun _ => ?_)
  refine lv_aload_n hx hb dX10_feedFour_17 rfl (lv_at hl 1 rfl) ?_
  refine va_get (D := (dC, dI)) (ci := 10) (v := .ref (fa0 0)) (C := RX10) (T := TX10) (N := 19) hx hb hts iq_X10_feedFour_X10 hown hK hP 0 rfl rfl 0 (by decide) (hts (Cond.fieldLink RX10 9 "CodePress" "tape" "[B") (List.mem_of_getElem? (i := 2) rfl)) (fun _ h9 => h9) rfl dX10_feedFour_18 ?_
  refine lv_aload_n hx hb dX10_feedFour_21 rfl (lv_at hl 1 rfl) ?_
  refine va_get (D := (dC, dI)) (ci := 10) (v := .int 3) (C := RX10) (T := TX10) (N := 19) hx hb hts iq_X10_feedFour_X10 hown hK hP 0 rfl rfl 13 (by decide) (hts (Cond.fieldLink RX10 105 "CodePress" "tapeSize" "I") (List.mem_of_getElem? (i := 1) rfl)) (fun _ h9 => h9) rfl dX10_feedFour_22 ?_
  refine lv_iload_n hx hb dX10_feedFour_25 rfl (lv_at hl 2 rfl) ?_
  refine lv_iload_n hx hb dX10_feedFour_26 rfl (lv_at hl 0 rfl) ?_
  refine lv_ishr hx hb dX10_feedFour_27 ?_
  refine lv_i2b (v := (x0 >>> (0 &&& 31)).toInt8.toInt32) hx hb dX10_feedFour_28 rfl ?_
  refine va_bast hx hb hK hP hD hS 1 0 rfl rfl (pq_in (by decide)) dX10_feedFour_29 (fun H locs hP hD hS => ?_)
  have hR9 : pq_R (dC, dI) vwCl A [(h0, .inr (10, [.ref (fa0 0), .ref (fa0 1), .ref (fa0 2), .ref (fa0 20), .ref (fa0 21), .ref (fa0 16), .ref (fa0 17), .ref (fa0 22), .ref (fa0 23), .ref (fa0 18), .ref (fa0 24), .ref (fa0 25), .ref (fa0 19), .int 3, .int 0, .int (-1), .int 0, .int 0, .int 0])), ((fa0 0), .inl (cB, 3000, .inl (upd (upd (upd (upd (fun _ => 0) 0 (vp_nar .byte ((x0 >>> (24 &&& 31)).toInt8.toInt32))) 1 (vp_nar .byte ((x0 >>> (16 &&& 31)).toInt8.toInt32))) 2 (vp_nar .byte ((x0 >>> (8 &&& 31)).toInt8.toInt32))) 3 (vp_nar .byte ((x0 >>> (0 &&& 31)).toInt8.toInt32)))))] H := ⟨hP, hD⟩
  have hP := hR9.1
  have hD := hR9.2
  refine lv_aload_n hx hb dX10_feedFour_30 rfl (lv_at hl 1 rfl) ?_
  refine lv_dup hx hb dX10_feedFour_31 rfl ?_
  refine va_get (D := (dC, dI)) (ci := 10) (v := .int 3) (C := RX10) (T := TX10) (N := 19) hx hb hts iq_X10_feedFour_X10 hown hK hP 0 rfl rfl 13 (by decide) (hts (Cond.fieldLink RX10 105 "CodePress" "tapeSize" "I") (List.mem_of_getElem? (i := 1) rfl)) (fun _ h9 => h9) rfl dX10_feedFour_32 ?_
  refine lv_iconst (v := 1) hx hb dX10_feedFour_35 (by decide) ?_
  refine lv_iadd hx hb dX10_feedFour_36 ?_
  refine lv_topi (fun x4 ex4 => ?_)
  obtain rfl : x4 = 4 := ex4.trans (by decide)
  refine va_put (D := (dC, dI)) (ci := 10) (v := .int 4) (ty := .int) (C := RX10) (T := TX10) (N := 19) hx hb hts iq_X10_feedFour_X10 tyX10 tyX10_ok nmX10 hown hK hP hD hS 0 rfl rfl 13 (by decide) (hts (Cond.fieldLink RX10 105 "CodePress" "tapeSize" "I") (List.mem_of_getElem? (i := 1) rfl)) (fun _ h9 => h9) rfl (by decide +kernel) rfl rfl (Nat.le_of_ble_eq_true rfl) dX10_feedFour_37 (fun H locs hP hD hS => ?_)
  have hR9 : pq_R (dC, dI) vwCl A [(h0, .inr (10, [.ref (fa0 0), .ref (fa0 1), .ref (fa0 2), .ref (fa0 20), .ref (fa0 21), .ref (fa0 16), .ref (fa0 17), .ref (fa0 22), .ref (fa0 23), .ref (fa0 18), .ref (fa0 24), .ref (fa0 25), .ref (fa0 19), .int 4, .int 0, .int (-1), .int 0, .int 0, .int 0])), ((fa0 0), .inl (cB, 3000, .inl (upd (upd (upd (upd (fun _ => 0) 0 (vp_nar .byte ((x0 >>> (24 &&& 31)).toInt8.toInt32))) 1 (vp_nar .byte ((x0 >>> (16 &&& 31)).toInt8.toInt32))) 2 (vp_nar .byte ((x0 >>> (8 &&& 31)).toInt8.toInt32))) 3 (vp_nar .byte ((x0 >>> (0 &&& 31)).toInt8.toInt32)))))] H := ⟨hP, hD⟩
  have hP := hR9.1
  have hD := hR9.2
  refine lv_iinc (v := (-8)) (lv' := [(2, .int (-8)), (0, .ref h0), (1, .int x0)]) hx hb dX10_feedFour_40 hl (k := 0) rfl (by decide) (by decide) rfl (fun ls hl => ?_)
  refine lv_goto (tgt := 3) hx hb dX10_feedFour_43 (by decide) ?_
  refine lv_iload_n hx hb dX10_feedFour_3 rfl (lv_at hl 0 rfl) ?_
  refine lv_if_lt (tgt := 46) hx hb dX10_feedFour_4 (by decide) (fun _ => ?_) (fun c_ => absurd (by decide) c_)
  have hP9 := pq_P.pick (wc := [(h0, .inr (10, [.ref (fa0 0), .ref (fa0 1), .ref (fa0 2), .ref (fa0 20), .ref (fa0 21), .ref (fa0 16), .ref (fa0 17), .ref (fa0 22), .ref (fa0 23), .ref (fa0 18), .ref (fa0 24), .ref (fa0 25), .ref (fa0 19), .int 4, .int 0, .int (-1), .int 0, .int 0, .int 0])), ((fa0 0), .inl (cB, 3000, .inl (upd (upd (upd (upd (fun _ => 0) 0 (vp_nar .byte ((x0 >>> (24 &&& 31)).toInt8.toInt32))) 1 (vp_nar .byte ((x0 >>> (16 &&& 31)).toInt8.toInt32))) 2 (vp_nar .byte ((x0 >>> (8 &&& 31)).toInt8.toInt32))) 3 (vp_nar .byte ((x0 >>> (0 &&& 31)).toInt8.toInt32)))))]) hP [0, 1] rfl
  have hD9 := hD.sub (ws' := [(h0, .inr (10, [.ref (fa0 0), .ref (fa0 1), .ref (fa0 2), .ref (fa0 20), .ref (fa0 21), .ref (fa0 16), .ref (fa0 17), .ref (fa0 22), .ref (fa0 23), .ref (fa0 18), .ref (fa0 24), .ref (fa0 25), .ref (fa0 19), .int 4, .int 0, .int (-1), .int 0, .int 0, .int 0])), ((fa0 0), .inl (cB, 3000, .inl (upd (upd (upd (upd (fun _ => 0) 0 (vp_nar .byte ((x0 >>> (24 &&& 31)).toInt8.toInt32))) 1 (vp_nar .byte ((x0 >>> (16 &&& 31)).toInt8.toInt32))) 2 (vp_nar .byte ((x0 >>> (8 &&& 31)).toInt8.toInt32))) 3 (vp_nar .byte ((x0 >>> (0 &&& 31)).toInt8.toInt32)))))]) [0, 1] (by decide) rfl
  refine W.widen (k := 0) (n := 0) (by decide +kernel) (by decide +kernel) ?_
  exact W.vret hx hb hr (fun t ht hW => ⟨⟨sq_u [] [], rfl, trivial, pq_B.of ht hP9 hD9⟩, hS.F ht⟩) hS.2.2 dX10_feedFour_46
def wq_X10_feedFour_1_r1 : List Cond := [Cond.fieldLink RX10 105 "CodePress" "tapeSize" "I", Cond.fieldLink RX10 9 "CodePress" "tape" "[B"]
def wq_X10_feedFour_1 : List Cond := Cond.code yX10_feedFour cX10_feedFour 3 none :: (wq_X10_feedFour_1_r1 ++ wsX100)
theorem iq_X10_feedFour_1_X10 : ∀ w ∈ wsX100, w ∈ wq_X10_feedFour_1 := fun _ h => List.mem_cons_of_mem _ (List.mem_append_right _ h)
set_option maxHeartbeats 4000000 in
set_option maxRecDepth 100000 in
theorem cq_X10_feedFour_1 (l : Launch) (dC : Nat → ClassId) (dI : Nat → Nat → Nat) (cB cI cJ cZ : ClassId) (h0 : Nat) (fa0 : Nat → Nat) (x0 : Int32) (f0 : Nat → Int32) (sz : Nat) : Met l yX10_feedFour wq_X10_feedFour_1 ({ frames := 0, cells := 0, slots := 0, locals := 0 }) (va_Pc [.ref h0, .int x0] (pq_W (dC, dI) vwCl (tyQ cB cI cJ cZ) [(h0, .inr (10, [.ref (fa0 0), .ref (fa0 1), .ref (fa0 2), .ref (fa0 20), .ref (fa0 21), .ref (fa0 16), .ref (fa0 17), .ref (fa0 22), .ref (fa0 23), .ref (fa0 18), .ref (fa0 24), .ref (fa0 25), .ref (fa0 19), .int 4, .int 0, .int (-1), .int 0, .int 0, .int 0])), ((fa0 0), .inl (cB, 3000, .inl f0))] sz)) (va_Qv (fun (_ : SQ) => True) (fun u => pq_B (dC, dI) vwCl [(h0, .inr (10, [.ref (fa0 0), .ref (fa0 1), .ref (fa0 2), .ref (fa0 20), .ref (fa0 21), .ref (fa0 16), .ref (fa0 17), .ref (fa0 22), .ref (fa0 23), .ref (fa0 18), .ref (fa0 24), .ref (fa0 25), .ref (fa0 19), .int 8, .int 0, .int (-1), .int 0, .int 0, .int 0])), ((fa0 0), .inl (cB, 3000, .inl (upd (upd (upd (upd f0 4 (vp_nar .byte ((x0 >>> (24 &&& 31)).toInt8.toInt32))) 5 (vp_nar .byte ((x0 >>> (16 &&& 31)).toInt8.toInt32))) 6 (vp_nar .byte ((x0 >>> (8 &&& 31)).toInt8.toInt32))) 7 (vp_nar .byte ((x0 >>> (0 &&& 31)).toInt8.toInt32)))))] (va_A [(h0, .inr (10, [.ref (fa0 0), .ref (fa0 1), .ref (fa0 2), .ref (fa0 20), .ref (fa0 21), .ref (fa0 16), .ref (fa0 17), .ref (fa0 22), .ref (fa0 23), .ref (fa0 18), .ref (fa0 24), .ref (fa0 25), .ref (fa0 19), .int 4, .int 0, .int (-1), .int 0, .int 0, .int 0])), ((fa0 0), .inl (cB, 3000, .inl f0))] sz)) (va_A [(h0, .inr (10, [.ref (fa0 0), .ref (fa0 1), .ref (fa0 2), .ref (fa0 20), .ref (fa0 21), .ref (fa0 16), .ref (fa0 17), .ref (fa0 22), .ref (fa0 23), .ref (fa0 18), .ref (fa0 24), .ref (fa0 25), .ref (fa0 19), .int 4, .int 0, .int (-1), .int 0, .int 0, .int 0])), ((fa0 0), .inl (cB, 3000, .inl f0))] sz)) 0 0 (va_A [(h0, .inr (10, [.ref (fa0 0), .ref (fa0 1), .ref (fa0 2), .ref (fa0 20), .ref (fa0 21), .ref (fa0 16), .ref (fa0 17), .ref (fa0 22), .ref (fa0 23), .ref (fa0 18), .ref (fa0 24), .ref (fa0 25), .ref (fa0 19), .int 4, .int 0, .int (-1), .int 0, .int 0, .int 0])), ((fa0 0), .inl (cB, 3000, .inl f0))] sz) := by
  refine Met.ofW (cc := cX10_feedFour) (maxL := 3) (ret := none) (by decide) rfl ?_
  intro p e s m args below meth c s₁ B hml hv
  obtain ⟨rfl, hsz, hP, hK, hD0⟩ := hv
  have hx := B.exec
  have hb := B.bytes
  have hr := B.returns
  have hts := atoms_spec (ws := wq_X10_feedFour_1) B.pre
  have hown : s.vm.findClass RX10 = some m.cls := findClass_of_methodNamed B.named
  have hlocks := B.notSynchronized
  subst hsz
  have hD := hD0.self (sz := s.heap.size)
  generalize hAe : va_A [(h0, .inr (10, [.ref (fa0 0), .ref (fa0 1), .ref (fa0 2), .ref (fa0 20), .ref (fa0 21), .ref (fa0 16), .ref (fa0 17), .ref (fa0 22), .ref (fa0 23), .ref (fa0 18), .ref (fa0 24), .ref (fa0 25), .ref (fa0 19), .int 4, .int 0, .int (-1), .int 0, .int 0, .int 0])), ((fa0 0), .inl (cB, 3000, .inl f0))] s.heap.size = A at hD ⊢
  have hA : ∀ q : Nat, s.heap.size ≤ q → A q := fun q h => by rw [← hAe]; exact Or.inr h
  have hS : va_S A s.heap s.heap [] := va_S.rf
  have hP : va_P (dC, dI) vwCl [(h0, .inr (10, [.ref (fa0 0), .ref (fa0 1), .ref (fa0 2), .ref (fa0 20), .ref (fa0 21), .ref (fa0 16), .ref (fa0 17), .ref (fa0 22), .ref (fa0 23), .ref (fa0 18), .ref (fa0 24), .ref (fa0 25), .ref (fa0 19), .int 4, .int 0, .int (-1), .int 0, .int 0, .int 0])), ((fa0 0), .inl (cB, 3000, .inl f0))] s.heap := hP
  obtain ⟨H, hH⟩ : ∃ H, H = s.heap := ⟨_, rfl⟩
  rw [← hH] at hP
  have hS : va_S A s.heap H [] := by rw [hH]; exact hS
  have hl := lv_entry ([.ref h0, .int x0]) (n := 3) (Nat.le_of_ble_eq_true rfl)
  rw [lg_entry_eq]
  generalize (lg_sl ([.ref h0, .int x0]) ++ List.replicate (3 - (lg_sl ([.ref h0, .int x0])).length) Slot.unset).toArray = ls at hl ⊢
  have hl : lv_has ls 3 [(0, .ref h0), (1, .int x0)] := hl
  refine pq_heap hH ?_
  refine lv_bipush (v := 24) hx hb dX10_feedFour_0 (by decide) ?_
  refine lv_istore_n (lv' := [(2, .int 24), (0, .ref h0), (1, .int x0)]) hx hb dX10_feedFour_2 rfl hl (by decide) rfl (fun ls hl => ?_)
  refine lv_iload_n hx hb dX10_feedFour_3 rfl (lv_at hl 0 rfl) ?_
  refine lv_if_lt (tgt := 46) hx hb dX10_feedFour_4 (by decide) (fun c_ => absurd c_ (by decide)) (fun _ => ?_)
  refine lv_aload_n hx hb dX10_feedFour_7 rfl (lv_at hl 1 rfl) ?_
  refine va_get (D := (dC, dI)) (ci := 10) (v := .int 4) (C := RX10) (T := TX10) (N := 19) hx hb hts iq_X10_feedFour_1_X10 hown hK hP 0 rfl rfl 13 (by decide) (hts (Cond.fieldLink RX10 105 "CodePress" "tapeSize" "I") (List.mem_of_getElem? (i := 1) rfl)) (fun _ h9 => h9) rfl dX10_feedFour_8 ?_
  refine lv_sipush (v := 3000) hx hb dX10_feedFour_11 (by decide) ?_
  refine lv_icmp_ge (tgt := 40) hx hb dX10_feedFour_14 (by decide) (fun c_ => absurd c_ (by decide)) (fun _ => ?_)
  refine lv_aload_n hx hb dX10_feedFour_17 rfl (lv_at hl 1 rfl) ?_
  refine va_get (D := (dC, dI)) (ci := 10) (v := .ref (fa0 0)) (C := RX10) (T := TX10) (N := 19) hx hb hts iq_X10_feedFour_1_X10 hown hK hP 0 rfl rfl 0 (by decide) (hts (Cond.fieldLink RX10 9 "CodePress" "tape" "[B") (List.mem_of_getElem? (i := 2) rfl)) (fun _ h9 => h9) rfl dX10_feedFour_18 ?_
  refine lv_aload_n hx hb dX10_feedFour_21 rfl (lv_at hl 1 rfl) ?_
  refine va_get (D := (dC, dI)) (ci := 10) (v := .int 4) (C := RX10) (T := TX10) (N := 19) hx hb hts iq_X10_feedFour_1_X10 hown hK hP 0 rfl rfl 13 (by decide) (hts (Cond.fieldLink RX10 105 "CodePress" "tapeSize" "I") (List.mem_of_getElem? (i := 1) rfl)) (fun _ h9 => h9) rfl dX10_feedFour_22 ?_
  refine lv_iload_n hx hb dX10_feedFour_25 rfl (lv_at hl 2 rfl) ?_
  refine lv_iload_n hx hb dX10_feedFour_26 rfl (lv_at hl 0 rfl) ?_
  refine lv_ishr hx hb dX10_feedFour_27 ?_
  refine lv_i2b (v := (x0 >>> (24 &&& 31)).toInt8.toInt32) hx hb dX10_feedFour_28 rfl ?_
  refine va_bast hx hb hK hP hD hS 1 0 rfl rfl (pq_in (by decide)) dX10_feedFour_29 (fun H locs hP hD hS => ?_)
  have hR9 : pq_R (dC, dI) vwCl A [(h0, .inr (10, [.ref (fa0 0), .ref (fa0 1), .ref (fa0 2), .ref (fa0 20), .ref (fa0 21), .ref (fa0 16), .ref (fa0 17), .ref (fa0 22), .ref (fa0 23), .ref (fa0 18), .ref (fa0 24), .ref (fa0 25), .ref (fa0 19), .int 4, .int 0, .int (-1), .int 0, .int 0, .int 0])), ((fa0 0), .inl (cB, 3000, .inl (upd f0 4 (vp_nar .byte ((x0 >>> (24 &&& 31)).toInt8.toInt32)))))] H := ⟨hP, hD⟩
  have hP := hR9.1
  have hD := hR9.2
  refine lv_aload_n hx hb dX10_feedFour_30 rfl (lv_at hl 1 rfl) ?_
  refine lv_dup hx hb dX10_feedFour_31 rfl ?_
  refine va_get (D := (dC, dI)) (ci := 10) (v := .int 4) (C := RX10) (T := TX10) (N := 19) hx hb hts iq_X10_feedFour_1_X10 hown hK hP 0 rfl rfl 13 (by decide) (hts (Cond.fieldLink RX10 105 "CodePress" "tapeSize" "I") (List.mem_of_getElem? (i := 1) rfl)) (fun _ h9 => h9) rfl dX10_feedFour_32 ?_
  refine lv_iconst (v := 1) hx hb dX10_feedFour_35 (by decide) ?_
  refine lv_iadd hx hb dX10_feedFour_36 ?_
  refine lv_topi (fun x1 ex1 => ?_)
  obtain rfl : x1 = 5 := ex1.trans (by decide)
  refine va_put (D := (dC, dI)) (ci := 10) (v := .int 5) (ty := .int) (C := RX10) (T := TX10) (N := 19) hx hb hts iq_X10_feedFour_1_X10 tyX10 tyX10_ok nmX10 hown hK hP hD hS 0 rfl rfl 13 (by decide) (hts (Cond.fieldLink RX10 105 "CodePress" "tapeSize" "I") (List.mem_of_getElem? (i := 1) rfl)) (fun _ h9 => h9) rfl (by decide +kernel) rfl rfl (Nat.le_of_ble_eq_true rfl) dX10_feedFour_37 (fun H locs hP hD hS => ?_)
  have hR9 : pq_R (dC, dI) vwCl A [(h0, .inr (10, [.ref (fa0 0), .ref (fa0 1), .ref (fa0 2), .ref (fa0 20), .ref (fa0 21), .ref (fa0 16), .ref (fa0 17), .ref (fa0 22), .ref (fa0 23), .ref (fa0 18), .ref (fa0 24), .ref (fa0 25), .ref (fa0 19), .int 5, .int 0, .int (-1), .int 0, .int 0, .int 0])), ((fa0 0), .inl (cB, 3000, .inl (upd f0 4 (vp_nar .byte ((x0 >>> (24 &&& 31)).toInt8.toInt32)))))] H := ⟨hP, hD⟩
  have hP := hR9.1
  have hD := hR9.2
  refine lv_iinc (v := 16) (lv' := [(2, .int 16), (0, .ref h0), (1, .int x0)]) hx hb dX10_feedFour_40 hl (k := 0) rfl (by decide) (by decide) rfl (fun ls hl => ?_)
  refine lv_goto (tgt := 3) hx hb dX10_feedFour_43 (by decide) ?_
  refine lv_iload_n hx hb dX10_feedFour_3 rfl (lv_at hl 0 rfl) ?_
  refine lv_if_lt (tgt := 46) hx hb dX10_feedFour_4 (by decide) (fun c_ => absurd c_ (by decide)) (fun _ => ?_)
  refine lv_aload_n hx hb dX10_feedFour_7 rfl (lv_at hl 1 rfl) ?_
  refine va_get (D := (dC, dI)) (ci := 10) (v := .int 5) (C := RX10) (T := TX10) (N := 19) hx hb hts iq_X10_feedFour_1_X10 hown hK hP 0 rfl rfl 13 (by decide) (hts (Cond.fieldLink RX10 105 "CodePress" "tapeSize" "I") (List.mem_of_getElem? (i := 1) rfl)) (fun _ h9 => h9) rfl dX10_feedFour_8 ?_
  refine lv_sipush (v := 3000) hx hb dX10_feedFour_11 (by decide) ?_
  refine lv_icmp_ge (tgt := 40) hx hb dX10_feedFour_14 (by decide) (fun c_ => absurd c_ (by decide)) (fun _ => ?_)
  refine lv_aload_n hx hb dX10_feedFour_17 rfl (lv_at hl 1 rfl) ?_
  refine va_get (D := (dC, dI)) (ci := 10) (v := .ref (fa0 0)) (C := RX10) (T := TX10) (N := 19) hx hb hts iq_X10_feedFour_1_X10 hown hK hP 0 rfl rfl 0 (by decide) (hts (Cond.fieldLink RX10 9 "CodePress" "tape" "[B") (List.mem_of_getElem? (i := 2) rfl)) (fun _ h9 => h9) rfl dX10_feedFour_18 ?_
  refine lv_aload_n hx hb dX10_feedFour_21 rfl (lv_at hl 1 rfl) ?_
  refine va_get (D := (dC, dI)) (ci := 10) (v := .int 5) (C := RX10) (T := TX10) (N := 19) hx hb hts iq_X10_feedFour_1_X10 hown hK hP 0 rfl rfl 13 (by decide) (hts (Cond.fieldLink RX10 105 "CodePress" "tapeSize" "I") (List.mem_of_getElem? (i := 1) rfl)) (fun _ h9 => h9) rfl dX10_feedFour_22 ?_
  refine lv_iload_n hx hb dX10_feedFour_25 rfl (lv_at hl 2 rfl) ?_
  refine lv_iload_n hx hb dX10_feedFour_26 rfl (lv_at hl 0 rfl) ?_
  refine lv_ishr hx hb dX10_feedFour_27 ?_
  refine lv_i2b (v := (x0 >>> (16 &&& 31)).toInt8.toInt32) hx hb dX10_feedFour_28 rfl ?_
  refine va_bast hx hb hK hP hD hS 1 0 rfl rfl (pq_in (by decide)) dX10_feedFour_29 (fun H locs hP hD hS => ?_)
  have hR9 : pq_R (dC, dI) vwCl A [(h0, .inr (10, [.ref (fa0 0), .ref (fa0 1), .ref (fa0 2), .ref (fa0 20), .ref (fa0 21), .ref (fa0 16), .ref (fa0 17), .ref (fa0 22), .ref (fa0 23), .ref (fa0 18), .ref (fa0 24), .ref (fa0 25), .ref (fa0 19), .int 5, .int 0, .int (-1), .int 0, .int 0, .int 0])), ((fa0 0), .inl (cB, 3000, .inl (upd (upd f0 4 (vp_nar .byte ((x0 >>> (24 &&& 31)).toInt8.toInt32))) 5 (vp_nar .byte ((x0 >>> (16 &&& 31)).toInt8.toInt32)))))] H := ⟨hP, hD⟩
  have hP := hR9.1
  have hD := hR9.2
  refine lv_aload_n hx hb dX10_feedFour_30 rfl (lv_at hl 1 rfl) ?_
  refine lv_dup hx hb dX10_feedFour_31 rfl ?_
  refine va_get (D := (dC, dI)) (ci := 10) (v := .int 5) (C := RX10) (T := TX10) (N := 19) hx hb hts iq_X10_feedFour_1_X10 hown hK hP 0 rfl rfl 13 (by decide) (hts (Cond.fieldLink RX10 105 "CodePress" "tapeSize" "I") (List.mem_of_getElem? (i := 1) rfl)) (fun _ h9 => h9) rfl dX10_feedFour_32 ?_
  refine lv_iconst (v := 1) hx hb dX10_feedFour_35 (by decide) ?_
  refine lv_iadd hx hb dX10_feedFour_36 ?_
  refine lv_topi (fun x2 ex2 => ?_)
  obtain rfl : x2 = 6 := ex2.trans (by decide)
  refine va_put (D := (dC, dI)) (ci := 10) (v := .int 6) (ty := .int) (C := RX10) (T := TX10) (N := 19) hx hb hts iq_X10_feedFour_1_X10 tyX10 tyX10_ok nmX10 hown hK hP hD hS 0 rfl rfl 13 (by decide) (hts (Cond.fieldLink RX10 105 "CodePress" "tapeSize" "I") (List.mem_of_getElem? (i := 1) rfl)) (fun _ h9 => h9) rfl (by decide +kernel) rfl rfl (Nat.le_of_ble_eq_true rfl) dX10_feedFour_37 (fun H locs hP hD hS => ?_)
  have hR9 : pq_R (dC, dI) vwCl A [(h0, .inr (10, [.ref (fa0 0), .ref (fa0 1), .ref (fa0 2), .ref (fa0 20), .ref (fa0 21), .ref (fa0 16), .ref (fa0 17), .ref (fa0 22), .ref (fa0 23), .ref (fa0 18), .ref (fa0 24), .ref (fa0 25), .ref (fa0 19), .int 6, .int 0, .int (-1), .int 0, .int 0, .int 0])), ((fa0 0), .inl (cB, 3000, .inl (upd (upd f0 4 (vp_nar .byte ((x0 >>> (24 &&& 31)).toInt8.toInt32))) 5 (vp_nar .byte ((x0 >>> (16 &&& 31)).toInt8.toInt32)))))] H := ⟨hP, hD⟩
  have hP := hR9.1
  have hD := hR9.2
  refine lv_iinc (v := 8) (lv' := [(2, .int 8), (0, .ref h0), (1, .int x0)]) hx hb dX10_feedFour_40 hl (k := 0) rfl (by decide) (by decide) rfl (fun ls hl => ?_)
  refine lv_goto (tgt := 3) hx hb dX10_feedFour_43 (by decide) ?_
  refine lv_iload_n hx hb dX10_feedFour_3 rfl (lv_at hl 0 rfl) ?_
  refine lv_if_lt (tgt := 46) hx hb dX10_feedFour_4 (by decide) (fun c_ => absurd c_ (by decide)) (fun _ => ?_)
  refine lv_aload_n hx hb dX10_feedFour_7 rfl (lv_at hl 1 rfl) ?_
  refine va_get (D := (dC, dI)) (ci := 10) (v := .int 6) (C := RX10) (T := TX10) (N := 19) hx hb hts iq_X10_feedFour_1_X10 hown hK hP 0 rfl rfl 13 (by decide) (hts (Cond.fieldLink RX10 105 "CodePress" "tapeSize" "I") (List.mem_of_getElem? (i := 1) rfl)) (fun _ h9 => h9) rfl dX10_feedFour_8 ?_
  refine lv_sipush (v := 3000) hx hb dX10_feedFour_11 (by decide) ?_
  refine lv_icmp_ge (tgt := 40) hx hb dX10_feedFour_14 (by decide) (fun c_ => absurd c_ (by decide)) (fun _ => ?_)
  refine lv_aload_n hx hb dX10_feedFour_17 rfl (lv_at hl 1 rfl) ?_
  refine va_get (D := (dC, dI)) (ci := 10) (v := .ref (fa0 0)) (C := RX10) (T := TX10) (N := 19) hx hb hts iq_X10_feedFour_1_X10 hown hK hP 0 rfl rfl 0 (by decide) (hts (Cond.fieldLink RX10 9 "CodePress" "tape" "[B") (List.mem_of_getElem? (i := 2) rfl)) (fun _ h9 => h9) rfl dX10_feedFour_18 ?_
  refine lv_aload_n hx hb dX10_feedFour_21 rfl (lv_at hl 1 rfl) ?_
  refine va_get (D := (dC, dI)) (ci := 10) (v := .int 6) (C := RX10) (T := TX10) (N := 19) hx hb hts iq_X10_feedFour_1_X10 hown hK hP 0 rfl rfl 13 (by decide) (hts (Cond.fieldLink RX10 105 "CodePress" "tapeSize" "I") (List.mem_of_getElem? (i := 1) rfl)) (fun _ h9 => h9) rfl dX10_feedFour_22 ?_
  refine lv_iload_n hx hb dX10_feedFour_25 rfl (lv_at hl 2 rfl) ?_
  refine lv_iload_n hx hb dX10_feedFour_26 rfl (lv_at hl 0 rfl) ?_
  refine lv_ishr hx hb dX10_feedFour_27 ?_
  refine lv_i2b (v := (x0 >>> (8 &&& 31)).toInt8.toInt32) hx hb dX10_feedFour_28 rfl ?_
  refine va_bast hx hb hK hP hD hS 1 0 rfl rfl (pq_in (by decide)) dX10_feedFour_29 (fun H locs hP hD hS => ?_)
  have hR9 : pq_R (dC, dI) vwCl A [(h0, .inr (10, [.ref (fa0 0), .ref (fa0 1), .ref (fa0 2), .ref (fa0 20), .ref (fa0 21), .ref (fa0 16), .ref (fa0 17), .ref (fa0 22), .ref (fa0 23), .ref (fa0 18), .ref (fa0 24), .ref (fa0 25), .ref (fa0 19), .int 6, .int 0, .int (-1), .int 0, .int 0, .int 0])), ((fa0 0), .inl (cB, 3000, .inl (upd (upd (upd f0 4 (vp_nar .byte ((x0 >>> (24 &&& 31)).toInt8.toInt32))) 5 (vp_nar .byte ((x0 >>> (16 &&& 31)).toInt8.toInt32))) 6 (vp_nar .byte ((x0 >>> (8 &&& 31)).toInt8.toInt32)))))] H := ⟨hP, hD⟩
  have hP := hR9.1
  have hD := hR9.2
  refine lv_aload_n hx hb dX10_feedFour_30 rfl (lv_at hl 1 rfl) ?_
  refine lv_dup hx hb dX10_feedFour_31 rfl ?_
  refine va_get (D := (dC, dI)) (ci := 10) (v := .int 6) (C := RX10) (T := TX10) (N := 19) hx hb hts iq_X10_feedFour_1_X10 hown hK hP 0 rfl rfl 13 (by decide) (hts (Cond.fieldLink RX10 105 "CodePress" "tapeSize" "I") (List.mem_of_getElem? (i := 1) rfl)) (fun _ h9 => h9) rfl dX10_feedFour_32 ?_
  refine lv_iconst (v := 1) hx hb dX10_feedFour_35 (by decide) ?_
  refine lv_iadd hx hb dX10_feedFour_36 ?_
  refine lv_topi (fun x3 ex3 => ?_)
  obtain rfl : x3 = 7 := ex3.trans (by decide)
  refine va_put (D := (dC, dI)) (ci := 10) (v := .int 7) (ty := .int) (C := RX10) (T := TX10) (N := 19) hx hb hts iq_X10_feedFour_1_X10 tyX10 tyX10_ok nmX10 hown hK hP hD hS 0 rfl rfl 13 (by decide) (hts (Cond.fieldLink RX10 105 "CodePress" "tapeSize" "I") (List.mem_of_getElem? (i := 1) rfl)) (fun _ h9 => h9) rfl (by decide +kernel) rfl rfl (Nat.le_of_ble_eq_true rfl) dX10_feedFour_37 (fun H locs hP hD hS => ?_)
  have hR9 : pq_R (dC, dI) vwCl A [(h0, .inr (10, [.ref (fa0 0), .ref (fa0 1), .ref (fa0 2), .ref (fa0 20), .ref (fa0 21), .ref (fa0 16), .ref (fa0 17), .ref (fa0 22), .ref (fa0 23), .ref (fa0 18), .ref (fa0 24), .ref (fa0 25), .ref (fa0 19), .int 7, .int 0, .int (-1), .int 0, .int 0, .int 0])), ((fa0 0), .inl (cB, 3000, .inl (upd (upd (upd f0 4 (vp_nar .byte ((x0 >>> (24 &&& 31)).toInt8.toInt32))) 5 (vp_nar .byte ((x0 >>> (16 &&& 31)).toInt8.toInt32))) 6 (vp_nar .byte ((x0 >>> (8 &&& 31)).toInt8.toInt32)))))] H := ⟨hP, hD⟩
  have hP := hR9.1
  have hD := hR9.2
  refine lv_iinc (v := 0) (lv' := [(2, .int 0), (0, .ref h0), (1, .int x0)]) hx hb dX10_feedFour_40 hl (k := 0) rfl (by decide) (by decide) rfl (fun ls hl => ?_)
  refine lv_goto (tgt := 3) hx hb dX10_feedFour_43 (by decide) ?_
  refine lv_iload_n hx hb dX10_feedFour_3 rfl (lv_at hl 0 rfl) ?_
  refine lv_if_lt (tgt := 46) hx hb dX10_feedFour_4 (by decide) (fun c_ => absurd c_ (by decide)) (fun _ => ?_)
  refine lv_aload_n hx hb dX10_feedFour_7 rfl (lv_at hl 1 rfl) ?_
  refine va_get (D := (dC, dI)) (ci := 10) (v := .int 7) (C := RX10) (T := TX10) (N := 19) hx hb hts iq_X10_feedFour_1_X10 hown hK hP 0 rfl rfl 13 (by decide) (hts (Cond.fieldLink RX10 105 "CodePress" "tapeSize" "I") (List.mem_of_getElem? (i := 1) rfl)) (fun _ h9 => h9) rfl dX10_feedFour_8 ?_
  refine lv_sipush (v := 3000) hx hb dX10_feedFour_11 (by decide) ?_
  refine lv_icmp_ge (tgt := 40) hx hb dX10_feedFour_14 (by decide) (fun c_ => absurd c_ (by decide)) (fun _ => ?_)
  refine lv_aload_n hx hb dX10_feedFour_17 rfl (lv_at hl 1 rfl) ?_
  refine va_get (D := (dC, dI)) (ci := 10) (v := .ref (fa0 0)) (C := RX10) (T := TX10) (N := 19) hx hb hts iq_X10_feedFour_1_X10 hown hK hP 0 rfl rfl 0 (by decide) (hts (Cond.fieldLink RX10 9 "CodePress" "tape" "[B") (List.mem_of_getElem? (i := 2) rfl)) (fun _ h9 => h9) rfl dX10_feedFour_18 ?_
  refine lv_aload_n hx hb dX10_feedFour_21 rfl (lv_at hl 1 rfl) ?_
  refine va_get (D := (dC, dI)) (ci := 10) (v := .int 7) (C := RX10) (T := TX10) (N := 19) hx hb hts iq_X10_feedFour_1_X10 hown hK hP 0 rfl rfl 13 (by decide) (hts (Cond.fieldLink RX10 105 "CodePress" "tapeSize" "I") (List.mem_of_getElem? (i := 1) rfl)) (fun _ h9 => h9) rfl dX10_feedFour_22 ?_
  refine lv_iload_n hx hb dX10_feedFour_25 rfl (lv_at hl 2 rfl) ?_
  refine lv_iload_n hx hb dX10_feedFour_26 rfl (lv_at hl 0 rfl) ?_
  refine lv_ishr hx hb dX10_feedFour_27 ?_
  refine lv_i2b (v := (x0 >>> (0 &&& 31)).toInt8.toInt32) hx hb dX10_feedFour_28 rfl ?_
  refine va_bast hx hb hK hP hD hS 1 0 rfl rfl (pq_in (by decide)) dX10_feedFour_29 (fun H locs hP hD hS => ?_)
  have hR9 : pq_R (dC, dI) vwCl A [(h0, .inr (10, [.ref (fa0 0), .ref (fa0 1), .ref (fa0 2), .ref (fa0 20), .ref (fa0 21), .ref (fa0 16), .ref (fa0 17), .ref (fa0 22), .ref (fa0 23), .ref (fa0 18), .ref (fa0 24), .ref (fa0 25), .ref (fa0 19), .int 7, .int 0, .int (-1), .int 0, .int 0, .int 0])), ((fa0 0), .inl (cB, 3000, .inl (upd (upd (upd (upd f0 4 (vp_nar .byte ((x0 >>> (24 &&& 31)).toInt8.toInt32))) 5 (vp_nar .byte ((x0 >>> (16 &&& 31)).toInt8.toInt32))) 6 (vp_nar .byte ((x0 >>> (8 &&& 31)).toInt8.toInt32))) 7 (vp_nar .byte ((x0 >>> (0 &&& 31)).toInt8.toInt32)))))] H := ⟨hP, hD⟩
  have hP := hR9.1
  have hD := hR9.2
  refine lv_aload_n hx hb dX10_feedFour_30 rfl (lv_at hl 1 rfl) ?_
  refine lv_dup hx hb dX10_feedFour_31 rfl ?_
  refine va_get (D := (dC, dI)) (ci := 10) (v := .int 7) (C := RX10) (T := TX10) (N := 19) hx hb hts iq_X10_feedFour_1_X10 hown hK hP 0 rfl rfl 13 (by decide) (hts (Cond.fieldLink RX10 105 "CodePress" "tapeSize" "I") (List.mem_of_getElem? (i := 1) rfl)) (fun _ h9 => h9) rfl dX10_feedFour_32 ?_
  refine lv_iconst (v := 1) hx hb dX10_feedFour_35 (by decide) ?_
  refine lv_iadd hx hb dX10_feedFour_36 ?_
  refine lv_topi (fun x4 ex4 => ?_)
  obtain rfl : x4 = 8 := ex4.trans (by decide)
  refine va_put (D := (dC, dI)) (ci := 10) (v := .int 8) (ty := .int) (C := RX10) (T := TX10) (N := 19) hx hb hts iq_X10_feedFour_1_X10 tyX10 tyX10_ok nmX10 hown hK hP hD hS 0 rfl rfl 13 (by decide) (hts (Cond.fieldLink RX10 105 "CodePress" "tapeSize" "I") (List.mem_of_getElem? (i := 1) rfl)) (fun _ h9 => h9) rfl (by decide +kernel) rfl rfl (Nat.le_of_ble_eq_true rfl) dX10_feedFour_37 (fun H locs hP hD hS => ?_)
  have hR9 : pq_R (dC, dI) vwCl A [(h0, .inr (10, [.ref (fa0 0), .ref (fa0 1), .ref (fa0 2), .ref (fa0 20), .ref (fa0 21), .ref (fa0 16), .ref (fa0 17), .ref (fa0 22), .ref (fa0 23), .ref (fa0 18), .ref (fa0 24), .ref (fa0 25), .ref (fa0 19), .int 8, .int 0, .int (-1), .int 0, .int 0, .int 0])), ((fa0 0), .inl (cB, 3000, .inl (upd (upd (upd (upd f0 4 (vp_nar .byte ((x0 >>> (24 &&& 31)).toInt8.toInt32))) 5 (vp_nar .byte ((x0 >>> (16 &&& 31)).toInt8.toInt32))) 6 (vp_nar .byte ((x0 >>> (8 &&& 31)).toInt8.toInt32))) 7 (vp_nar .byte ((x0 >>> (0 &&& 31)).toInt8.toInt32)))))] H := ⟨hP, hD⟩
  have hP := hR9.1
  have hD := hR9.2
  refine lv_iinc (v := (-8)) (lv' := [(2, .int (-8)), (0, .ref h0), (1, .int x0)]) hx hb dX10_feedFour_40 hl (k := 0) rfl (by decide) (by decide) rfl (fun ls hl => ?_)
  refine lv_goto (tgt := 3) hx hb dX10_feedFour_43 (by decide) ?_
  refine lv_iload_n hx hb dX10_feedFour_3 rfl (lv_at hl 0 rfl) ?_
  refine lv_if_lt (tgt := 46) hx hb dX10_feedFour_4 (by decide) (fun _ => ?_) (fun c_ => absurd (by decide) c_)
  have hP9 := pq_P.pick (wc := [(h0, .inr (10, [.ref (fa0 0), .ref (fa0 1), .ref (fa0 2), .ref (fa0 20), .ref (fa0 21), .ref (fa0 16), .ref (fa0 17), .ref (fa0 22), .ref (fa0 23), .ref (fa0 18), .ref (fa0 24), .ref (fa0 25), .ref (fa0 19), .int 8, .int 0, .int (-1), .int 0, .int 0, .int 0])), ((fa0 0), .inl (cB, 3000, .inl (upd (upd (upd (upd f0 4 (vp_nar .byte ((x0 >>> (24 &&& 31)).toInt8.toInt32))) 5 (vp_nar .byte ((x0 >>> (16 &&& 31)).toInt8.toInt32))) 6 (vp_nar .byte ((x0 >>> (8 &&& 31)).toInt8.toInt32))) 7 (vp_nar .byte ((x0 >>> (0 &&& 31)).toInt8.toInt32)))))]) hP [0, 1] rfl
  have hD9 := hD.sub (ws' := [(h0, .inr (10, [.ref (fa0 0), .ref (fa0 1), .ref (fa0 2), .ref (fa0 20), .ref (fa0 21), .ref (fa0 16), .ref (fa0 17), .ref (fa0 22), .ref (fa0 23), .ref (fa0 18), .ref (fa0 24), .ref (fa0 25), .ref (fa0 19), .int 8, .int 0, .int (-1), .int 0, .int 0, .int 0])), ((fa0 0), .inl (cB, 3000, .inl (upd (upd (upd (upd f0 4 (vp_nar .byte ((x0 >>> (24 &&& 31)).toInt8.toInt32))) 5 (vp_nar .byte ((x0 >>> (16 &&& 31)).toInt8.toInt32))) 6 (vp_nar .byte ((x0 >>> (8 &&& 31)).toInt8.toInt32))) 7 (vp_nar .byte ((x0 >>> (0 &&& 31)).toInt8.toInt32)))))]) [0, 1] (by decide) rfl
  refine W.widen (k := 0) (n := 0) (by decide +kernel) (by decide +kernel) ?_
  exact W.vret hx hb hr (fun t ht hW => ⟨⟨sq_u [] [], rfl, trivial, pq_B.of ht hP9 hD9⟩, hS.F ht⟩) hS.2.2 dX10_feedFour_46
def wq_X10_feedFour_2_r1 : List Cond := [Cond.fieldLink RX10 105 "CodePress" "tapeSize" "I", Cond.fieldLink RX10 9 "CodePress" "tape" "[B"]
def wq_X10_feedFour_2 : List Cond := Cond.code yX10_feedFour cX10_feedFour 3 none :: (wq_X10_feedFour_2_r1 ++ wsX100)
theorem iq_X10_feedFour_2_X10 : ∀ w ∈ wsX100, w ∈ wq_X10_feedFour_2 := fun _ h => List.mem_cons_of_mem _ (List.mem_append_right _ h)
set_option maxHeartbeats 4000000 in
set_option maxRecDepth 100000 in
theorem cq_X10_feedFour_2 (l : Launch) (dC : Nat → ClassId) (dI : Nat → Nat → Nat) (cB cI cJ cZ : ClassId) (h0 : Nat) (fa0 : Nat → Nat) (x0 : Int32) (f0 : Nat → Int32) (sz : Nat) : Met l yX10_feedFour wq_X10_feedFour_2 ({ frames := 0, cells := 0, slots := 0, locals := 0 }) (va_Pc [.ref h0, .int x0] (pq_W (dC, dI) vwCl (tyQ cB cI cJ cZ) [(h0, .inr (10, [.ref (fa0 0), .ref (fa0 1), .ref (fa0 2), .ref (fa0 20), .ref (fa0 21), .ref (fa0 16), .ref (fa0 17), .ref (fa0 22), .ref (fa0 23), .ref (fa0 18), .ref (fa0 24), .ref (fa0 25), .ref (fa0 19), .int 8, .int 0, .int (-1), .int 0, .int 0, .int 0])), ((fa0 0), .inl (cB, 3000, .inl f0))] sz)) (va_Qv (fun (_ : SQ) => True) (fun u => pq_B (dC, dI) vwCl [(h0, .inr (10, [.ref (fa0 0), .ref (fa0 1), .ref (fa0 2), .ref (fa0 20), .ref (fa0 21), .ref (fa0 16), .ref (fa0 17), .ref (fa0 22), .ref (fa0 23), .ref (fa0 18), .ref (fa0 24), .ref (fa0 25), .ref (fa0 19), .int 12, .int 0, .int (-1), .int 0, .int 0, .int 0])), ((fa0 0), .inl (cB, 3000, .inl (upd (upd (upd (upd f0 8 (vp_nar .byte ((x0 >>> (24 &&& 31)).toInt8.toInt32))) 9 (vp_nar .byte ((x0 >>> (16 &&& 31)).toInt8.toInt32))) 10 (vp_nar .byte ((x0 >>> (8 &&& 31)).toInt8.toInt32))) 11 (vp_nar .byte ((x0 >>> (0 &&& 31)).toInt8.toInt32)))))] (va_A [(h0, .inr (10, [.ref (fa0 0), .ref (fa0 1), .ref (fa0 2), .ref (fa0 20), .ref (fa0 21), .ref (fa0 16), .ref (fa0 17), .ref (fa0 22), .ref (fa0 23), .ref (fa0 18), .ref (fa0 24), .ref (fa0 25), .ref (fa0 19), .int 8, .int 0, .int (-1), .int 0, .int 0, .int 0])), ((fa0 0), .inl (cB, 3000, .inl f0))] sz)) (va_A [(h0, .inr (10, [.ref (fa0 0), .ref (fa0 1), .ref (fa0 2), .ref (fa0 20), .ref (fa0 21), .ref (fa0 16), .ref (fa0 17), .ref (fa0 22), .ref (fa0 23), .ref (fa0 18), .ref (fa0 24), .ref (fa0 25), .ref (fa0 19), .int 8, .int 0, .int (-1), .int 0, .int 0, .int 0])), ((fa0 0), .inl (cB, 3000, .inl f0))] sz)) 0 0 (va_A [(h0, .inr (10, [.ref (fa0 0), .ref (fa0 1), .ref (fa0 2), .ref (fa0 20), .ref (fa0 21), .ref (fa0 16), .ref (fa0 17), .ref (fa0 22), .ref (fa0 23), .ref (fa0 18), .ref (fa0 24), .ref (fa0 25), .ref (fa0 19), .int 8, .int 0, .int (-1), .int 0, .int 0, .int 0])), ((fa0 0), .inl (cB, 3000, .inl f0))] sz) := by
  refine Met.ofW (cc := cX10_feedFour) (maxL := 3) (ret := none) (by decide) rfl ?_
  intro p e s m args below meth c s₁ B hml hv
  obtain ⟨rfl, hsz, hP, hK, hD0⟩ := hv
  have hx := B.exec
  have hb := B.bytes
  have hr := B.returns
  have hts := atoms_spec (ws := wq_X10_feedFour_2) B.pre
  have hown : s.vm.findClass RX10 = some m.cls := findClass_of_methodNamed B.named
  have hlocks := B.notSynchronized
  subst hsz
  have hD := hD0.self (sz := s.heap.size)
  generalize hAe : va_A [(h0, .inr (10, [.ref (fa0 0), .ref (fa0 1), .ref (fa0 2), .ref (fa0 20), .ref (fa0 21), .ref (fa0 16), .ref (fa0 17), .ref (fa0 22), .ref (fa0 23), .ref (fa0 18), .ref (fa0 24), .ref (fa0 25), .ref (fa0 19), .int 8, .int 0, .int (-1), .int 0, .int 0, .int 0])), ((fa0 0), .inl (cB, 3000, .inl f0))] s.heap.size = A at hD ⊢
  have hA : ∀ q : Nat, s.heap.size ≤ q → A q := fun q h => by rw [← hAe]; exact Or.inr h
  have hS : va_S A s.heap s.heap [] := va_S.rf
  have hP : va_P (dC, dI) vwCl [(h0, .inr (10, [.ref (fa0 0), .ref (fa0 1), .ref (fa0 2), .ref (fa0 20), .ref (fa0 21), .ref (fa0 16), .ref (fa0 17), .ref (fa0 22), .ref (fa0 23), .ref (fa0 18), .ref (fa0 24), .ref (fa0 25), .ref (fa0 19), .int 8, .int 0, .int (-1), .int 0, .int 0, .int 0])), ((fa0 0), .inl (cB, 3000, .inl f0))] s.heap := hP
  obtain ⟨H, hH⟩ : ∃ H, H = s.heap := ⟨_, rfl⟩
  rw [← hH] at hP
  have hS : va_S A s.heap H [] := by rw [hH]; exact hS
  have hl := lv_entry ([.ref h0, .int x0]) (n := 3) (Nat.le_of_ble_eq_true rfl)
  rw [lg_entry_eq]
  generalize (lg_sl ([.ref h0, .int x0]) ++ List.replicate (3 - (lg_sl ([.ref h0, .int x0])).length) Slot.unset).toArray = ls at hl ⊢
  have hl : lv_has ls 3 [(0, .ref h0), (1, .int x0)] := hl
  refine pq_heap hH ?_
  refine lv_bipush (v := 24) hx hb dX10_feedFour_0 (by decide) ?_
  refine lv_istore_n (lv' := [(2, .int 24), (0, .ref h0), (1, .int x0)]) hx hb dX10_feedFour_2 rfl hl (by decide) rfl (fun ls hl => ?_)
  refine lv_iload_n hx hb dX10_feedFour_3 rfl (lv_at hl 0 rfl) ?_
  refine lv_if_lt (tgt := 46) hx hb dX10_feedFour_4 (by decide) (fun c_ => absurd c_ (by decide)) (fun _ => ?_)
  refine lv_aload_n hx hb dX10_feedFour_7 rfl (lv_at hl 1 rfl) ?_
  refine va_get (D := (dC, dI)) (ci := 10) (v := .int 8) (C := RX10) (T := TX10) (N := 19) hx hb hts iq_X10_feedFour_2_X10 hown hK hP 0 rfl rfl 13 (by decide) (hts (Cond.fieldLink RX10 105 "CodePress" "tapeSize" "I") (List.mem_of_getElem? (i := 1) rfl)) (fun _ h9 => h9) rfl dX10_feedFour_8 ?_
  refine lv_sipush (v := 3000) hx hb dX10_feedFour_11 (by decide) ?_
  refine lv_icmp_ge (tgt := 40) hx hb dX10_feedFour_14 (by decide) (fun c_ => absurd c_ (by decide)) (fun _ => ?_)
  refine lv_aload_n hx hb dX10_feedFour_17 rfl (lv_at hl 1 rfl) ?_
  refine va_get (D := (dC, dI)) (ci := 10) (v := .ref (fa0 0)) (C := RX10) (T := TX10) (N := 19) hx hb hts iq_X10_feedFour_2_X10 hown hK hP 0 rfl rfl 0 (by decide) (hts (Cond.fieldLink RX10 9 "CodePress" "tape" "[B") (List.mem_of_getElem? (i := 2) rfl)) (fun _ h9 => h9) rfl dX10_feedFour_18 ?_
  refine lv_aload_n hx hb dX10_feedFour_21 rfl (lv_at hl 1 rfl) ?_
  refine va_get (D := (dC, dI)) (ci := 10) (v := .int 8) (C := RX10) (T := TX10) (N := 19) hx hb hts iq_X10_feedFour_2_X10 hown hK hP 0 rfl rfl 13 (by decide) (hts (Cond.fieldLink RX10 105 "CodePress" "tapeSize" "I") (List.mem_of_getElem? (i := 1) rfl)) (fun _ h9 => h9) rfl dX10_feedFour_22 ?_
  refine lv_iload_n hx hb dX10_feedFour_25 rfl (lv_at hl 2 rfl) ?_
  refine lv_iload_n hx hb dX10_feedFour_26 rfl (lv_at hl 0 rfl) ?_
  refine lv_ishr hx hb dX10_feedFour_27 ?_
  refine lv_i2b (v := (x0 >>> (24 &&& 31)).toInt8.toInt32) hx hb dX10_feedFour_28 rfl ?_
  refine va_bast hx hb hK hP hD hS 1 0 rfl rfl (pq_in (by decide)) dX10_feedFour_29 (fun H locs hP hD hS => ?_)
  have hR9 : pq_R (dC, dI) vwCl A [(h0, .inr (10, [.ref (fa0 0), .ref (fa0 1), .ref (fa0 2), .ref (fa0 20), .ref (fa0 21), .ref (fa0 16), .ref (fa0 17), .ref (fa0 22), .ref (fa0 23), .ref (fa0 18), .ref (fa0 24), .ref (fa0 25), .ref (fa0 19), .int 8, .int 0, .int (-1), .int 0, .int 0, .int 0])), ((fa0 0), .inl (cB, 3000, .inl (upd f0 8 (vp_nar .byte ((x0 >>> (24 &&& 31)).toInt8.toInt32)))))] H := ⟨hP, hD⟩
  have hP := hR9.1
  have hD := hR9.2
  refine lv_aload_n hx hb dX10_feedFour_30 rfl (lv_at hl 1 rfl) ?_
  refine lv_dup hx hb dX10_feedFour_31 rfl ?_
  refine va_get (D := (dC, dI)) (ci := 10) (v := .int 8) (C := RX10) (T := TX10) (N := 19) hx hb hts iq_X10_feedFour_2_X10 hown hK hP 0 rfl rfl 13 (by decide) (hts (Cond.fieldLink RX10 105 "CodePress" "tapeSize" "I") (List.mem_of_getElem? (i := 1) rfl)) (fun _ h9 => h9) rfl dX10_feedFour_32 ?_
  refine lv_iconst (v := 1) hx hb dX10_feedFour_35 (by decide) ?_
  refine lv_iadd hx hb dX10_feedFour_36 ?_
  refine lv_topi (fun x1 ex1 => ?_)
  obtain rfl : x1 = 9 := ex1.trans (by decide)
  refine va_put (D := (dC, dI)) (ci := 10) (v := .int 9) (ty := .int) (C := RX10) (T := TX10) (N := 19) hx hb hts iq_X10_feedFour_2_X10 tyX10 tyX10_ok nmX10 hown hK hP hD hS 0 rfl rfl 13 (by decide) (hts (Cond.fieldLink RX10 105 "CodePress" "tapeSize" "I") (List.mem_of_getElem? (i := 1) rfl)) (fun _ h9 => h9) rfl (by decide +kernel) rfl rfl (Nat.le_of_ble_eq_true rfl) dX10_feedFour_37 (fun H locs hP hD hS => ?_)
  have hR9 : pq_R (dC, dI) vwCl A [(h0, .inr (10, [.ref (fa0 0), .ref (fa0 1), .ref (fa0 2), .ref (fa0 20), .ref (fa0 21), .ref (fa0 16), .ref (fa0 17), .ref (fa0 22), .ref (fa0 23), .ref (fa0 18), .ref (fa0 24), .ref (fa0 25), .ref (fa0 19), .int 9, .int 0, .int (-1), .int 0, .int 0, .int 0])), ((fa0 0), .inl (cB, 3000, .inl (upd f0 8 (vp_nar .byte ((x0 >>> (24 &&& 31)).toInt8.toInt32)))))] H := ⟨hP, hD⟩
  have hP := hR9.1
  have hD := hR9.2
  refine lv_iinc (v := 16) (lv' := [(2, .int 16), (0, .ref h0), (1, .int x0)]) hx hb dX10_feedFour_40 hl (k := 0) rfl (by decide) (by decide) rfl (fun ls hl => ?_)
  refine lv_goto (tgt := 3) hx hb dX10_feedFour_43 (by decide) ?_
  refine lv_iload_n hx hb dX10_feedFour_3 rfl (lv_at hl 0 rfl) ?_
  refine lv_if_lt (tgt := 46) hx hb dX10_feedFour_4 (by decide) (fun c_ => absurd c_ (by decide)) (fun _ => ?_)
  refine lv_aload_n hx hb dX10_feedFour_7 rfl (lv_at hl 1 rfl) ?_
  refine va_get (D := (dC, dI)) (ci := 10) (v := .int 9) (C := RX10) (T := TX10) (N := 19) hx hb hts iq_X10_feedFour_2_X10 hown hK hP 0 rfl rfl 13 (by decide) (hts (Cond.fieldLink RX10 105 "CodePress" "tapeSize" "I") (List.mem_of_getElem? (i := 1) rfl)) (fun _ h9 => h9) rfl dX10_feedFour_8 ?_
  refine lv_sipush (v := 3000) hx hb dX10_feedFour_11 (by decide) ?_
  refine lv_icmp_ge (tgt := 40) hx hb dX10_feedFour_14 (by decide) (fun c_ => absurd c_ (by decide)) (fun _ => ?_)
  refine lv_aload_n hx hb dX10_feedFour_17 rfl (lv_at hl 1 rfl) ?_
  refine va_get (D := (dC, dI)) (ci := 10) (v := .ref (fa0 0)) (C := RX10) (T := TX10) (N := 19) hx hb hts iq_X10_feedFour_2_X10 hown hK hP 0 rfl rfl 0 (by decide) (hts (Cond.fieldLink RX10 9 "CodePress" "tape" "[B") (List.mem_of_getElem? (i := 2) rfl)) (fun _ h9 => h9) rfl dX10_feedFour_18 ?_
  refine lv_aload_n hx hb dX10_feedFour_21 rfl (lv_at hl 1 rfl) ?_
  refine va_get (D := (dC, dI)) (ci := 10) (v := .int 9) (C := RX10) (T := TX10) (N := 19) hx hb hts iq_X10_feedFour_2_X10 hown hK hP 0 rfl rfl 13 (by decide) (hts (Cond.fieldLink RX10 105 "CodePress" "tapeSize" "I") (List.mem_of_getElem? (i := 1) rfl)) (fun _ h9 => h9) rfl dX10_feedFour_22 ?_
  refine lv_iload_n hx hb dX10_feedFour_25 rfl (lv_at hl 2 rfl) ?_
  refine lv_iload_n hx hb dX10_feedFour_26 rfl (lv_at hl 0 rfl) ?_
  refine lv_ishr hx hb dX10_feedFour_27 ?_
  refine lv_i2b (v := (x0 >>> (16 &&& 31)).toInt8.toInt32) hx hb dX10_feedFour_28 rfl ?_
  refine va_bast hx hb hK hP hD hS 1 0 rfl rfl (pq_in (by decide)) dX10_feedFour_29 (fun H locs hP hD hS => ?_)
  have hR9 : pq_R (dC, dI) vwCl A [(h0, .inr (10, [.ref (fa0 0), .ref (fa0 1), .ref (fa0 2), .ref (fa0 20), .ref (fa0 21), .ref (fa0 16), .ref (fa0 17), .ref (fa0 22), .ref (fa0 23), .ref (fa0 18), .ref (fa0 24), .ref (fa0 25), .ref (fa0 19), .int 9, .int 0, .int (-1), .int 0, .int 0, .int 0])), ((fa0 0), .inl (cB, 3000, .inl (upd (upd f0 8 (vp_nar .byte ((x0 >>> (24 &&& 31)).toInt8.toInt32))) 9 (vp_nar .byte ((x0 >>> (16 &&& 31)).toInt8.toInt32)))))] H := ⟨hP, hD⟩
  have hP := hR9.1
  have hD := hR9.2
  refine lv_aload_n hx hb dX10_feedFour_30 rfl (lv_at hl 1 rfl) ?_
  refine lv_dup hx hb dX10_feedFour_31 rfl ?_
  refine va_get (D := (dC, dI)) (ci := 10) (v := .int 9) (C := RX10) (T := TX10) (N := 19) hx hb hts iq_X10_feedFour_2_X10 hown hK hP 0 rfl rfl 13 (by decide) (hts (Cond.fieldLink RX10 105 "CodePress" "tapeSize" "I") (List.mem_of_getElem? (i := 1) rfl)) (fun _ h9 => h9) rfl dX10_feedFour_32 ?_
  refine lv_iconst (v := 1) hx hb dX10_feedFour_35 (by decide) ?_
  refine lv_iadd hx hb dX10_feedFour_36 ?_
  refine lv_topi (fun x2 ex2 => ?_)
  obtain rfl : x2 = 10 := ex2.trans (by decide)
  refine va_put (D := (dC, dI)) (ci := 10) (v := .int 10) (ty := .int) (C := RX10) (T := TX10) (N := 19) hx hb hts iq_X10_feedFour_2_X10 tyX10 tyX10_ok nmX10 hown hK hP hD hS 0 rfl rfl 13 (by decide) (hts (Cond.fieldLink RX10 105 "CodePress" "tapeSize" "I") (List.mem_of_getElem? (i := 1) rfl)) (fun _ h9 => h9) rfl (by decide +kernel) rfl rfl (Nat.le_of_ble_eq_true rfl) dX10_feedFour_37 (fun H locs hP hD hS => ?_)
  have hR9 : pq_R (dC, dI) vwCl A [(h0, .inr (10, [.ref (fa0 0), .ref (fa0 1), .ref (fa0 2), .ref (fa0 20), .ref (fa0 21), .ref (fa0 16), .ref (fa0 17), .ref (fa0 22), .ref (fa0 23), .ref (fa0 18), .ref (fa0 24), .ref (fa0 25), .ref (fa0 19), .int 10, .int 0, .int (-1), .int 0, .int 0, .int 0])), ((fa0 0), .inl (cB, 3000, .inl (upd (upd f0 8 (vp_nar .byte ((x0 >>> (24 &&& 31)).toInt8.toInt32))) 9 (vp_nar .byte ((x0 >>> (16 &&& 31)).toInt8.toInt32)))))] H := ⟨hP, hD⟩
  have hP := hR9.1
  have hD := hR9.2
  refine lv_iinc (v := 8) (lv' := [(2, .int 8), (0, .ref h0), (1, .int x0)]) hx hb dX10_feedFour_40 hl (k := 0) rfl (by decide) (by decide) rfl (fun ls hl => ?_)
  refine lv_goto (tgt := 3) hx hb dX10_feedFour_43 (by decide) ?_
  refine lv_iload_n hx hb dX10_feedFour_3 rfl (lv_at hl 0 rfl) ?_
  refine lv_if_lt (tgt := 46) hx hb dX10_feedFour_4 (by decide) (fun c_ => absurd c_ (by decide)) (fun _ => ?_)
  refine lv_aload_n hx hb dX10_feedFour_7 rfl (lv_at hl 1 rfl) ?_
  refine va_get (D := (dC, dI)) (ci := 10) (v := .int 10) (C := RX10) (T := TX10) (N := 19) hx hb hts iq_X10_feedFour_2_X10 hown hK hP 0 rfl rfl 13 (by decide) (hts (Cond.fieldLink RX10 105 "CodePress" "tapeSize" "I") (List.mem_of_getElem? (i := 1) rfl)) (fun _ h9 => h9) rfl dX10_feedFour_8 ?_
  refine lv_sipush (v := 3000) hx hb dX10_feedFour_11 (by decide) ?_
  refine lv_icmp_ge (tgt := 40) hx hb dX10_feedFour_14 (by decide) (fun c_ => absurd c_ (by decide)) (fun _ => ?_)
  refine lv_aload_n hx hb dX10_feedFour_17 rfl (lv_at hl 1 rfl) ?_
  refine va_get (D := (dC, dI)) (ci := 10) (v := .ref (fa0 0)) (C := RX10) (T := TX10) (N := 19) hx hb hts iq_X10_feedFour_2_X10 hown hK hP 0 rfl rfl 0 (by decide) (hts (Cond.fieldLink RX10 9 "CodePress" "tape" "[B") (List.mem_of_getElem? (i := 2) rfl)) (fun _ h9 => h9) rfl dX10_feedFour_18 ?_
  refine lv_aload_n hx hb dX10_feedFour_21 rfl (lv_at hl 1 rfl) ?_
  refine va_get (D := (dC, dI)) (ci := 10) (v := .int 10) (C := RX10) (T := TX10) (N := 19) hx hb hts iq_X10_feedFour_2_X10 hown hK hP 0 rfl rfl 13 (by decide) (hts (Cond.fieldLink RX10 105 "CodePress" "tapeSize" "I") (List.mem_of_getElem? (i := 1) rfl)) (fun _ h9 => h9) rfl dX10_feedFour_22 ?_
  refine lv_iload_n hx hb dX10_feedFour_25 rfl (lv_at hl 2 rfl) ?_
  refine lv_iload_n hx hb dX10_feedFour_26 rfl (lv_at hl 0 rfl) ?_
  refine lv_ishr hx hb dX10_feedFour_27 ?_
  refine lv_i2b (v := (x0 >>> (8 &&& 31)).toInt8.toInt32) hx hb dX10_feedFour_28 rfl ?_
  refine va_bast hx hb hK hP hD hS 1 0 rfl rfl (pq_in (by decide)) dX10_feedFour_29 (fun H locs hP hD hS => ?_)
  have hR9 : pq_R (dC, dI) vwCl A [(h0, .inr (10, [.ref (fa0 0), .ref (fa0 1), .ref (fa0 2), .ref (fa0 20), .ref (fa0 21), .ref (fa0 16), .ref (fa0 17), .ref (fa0 22), .ref (fa0 23), .ref (fa0 18), .ref (fa0 24), .ref (fa0 25), .ref (fa0 19), .int 10, .int 0, .int (-1), .int 0, .int 0, .int 0])), ((fa0 0), .inl (cB, 3000, .inl (upd (upd (upd f0 8 (vp_nar .byte ((x0 >>> (24 &&& 31)).toInt8.toInt32))) 9 (vp_nar .byte ((x0 >>> (16 &&& 31)).toInt8.toInt32))) 10 (vp_nar .byte ((x0 >>> (8 &&& 31)).toInt8.toInt32)))))] H := ⟨hP, hD⟩
  have hP := hR9.1
  have hD := hR9.2
  refine lv_aload_n hx hb dX10_feedFour_30 rfl (lv_at hl 1 rfl) ?_
  refine lv_dup hx hb dX10_feedFour_31 rfl ?_
  refine va_get (D := (dC, dI)) (ci := 10) (v := .int 10) (C := RX10) (T := TX10) (N := 19) hx hb hts iq_X10_feedFour_2_X10 hown hK hP 0 rfl rfl 13 (by decide) (hts (Cond.fieldLink RX10 105 "CodePress" "tapeSize" "I") (List.mem_of_getElem? (i := 1) rfl)) (fun _ h9 => h9) rfl dX10_feedFour_32 ?_
  refine lv_iconst (v := 1) hx hb dX10_feedFour_35 (by decide) ?_
  refine lv_iadd hx hb dX10_feedFour_36 ?_
  refine lv_topi (fun x3 ex3 => ?_)
  obtain rfl : x3 = 11 := ex3.trans (by decide)
  refine va_put (D := (dC, dI)) (ci := 10) (v := .int 11) (ty := .int) (C := RX10) (T := TX10) (N := 19) hx hb hts iq_X10_feedFour_2_X10 tyX10 tyX10_ok nmX10 hown hK hP hD hS 0 rfl rfl 13 (by decide) (hts (Cond.fieldLink RX10 105 "CodePress" "tapeSize" "I") (List.mem_of_getElem? (i := 1) rfl)) (fun _ h9 => h9) rfl (by decide +kernel) rfl rfl (Nat.le_of_ble_eq_true rfl) dX10_feedFour_37 (fun H locs hP hD hS => ?_)
  have hR9 : pq_R (dC, dI) vwCl A [(h0, .inr (10, [.ref (fa0 0), .ref (fa0 1), .ref (fa0 2), .ref (fa0 20), .ref (fa0 21), .ref (fa0 16), .ref (fa0 17), .ref (fa0 22), .ref (fa0 23), .ref (fa0 18), .ref (fa0 24), .ref (fa0 25), .ref (fa0 19), .int 11, .int 0, .int (-1), .int 0, .int 0, .int 0])), ((fa0 0), .inl (cB, 3000, .inl (upd (upd (upd f0 8 (vp_nar .byte ((x0 >>> (24 &&& 31)).toInt8.toInt32))) 9 (vp_nar .byte ((x0 >>> (16 &&& 31)).toInt8.toInt32))) 10 (vp_nar .byte ((x0 >>> (8 &&& 31)).toInt8.toInt32)))))] H := ⟨hP, hD⟩
  have hP := hR9.1
  have hD := hR9.2
  refine lv_iinc (v := 0) (lv' := [(2, .int 0), (0, .ref h0), (1, .int x0)]) hx hb dX10_feedFour_40 hl (k := 0) rfl (by decide) (by decide) rfl (fun ls hl => ?_)
  refine lv_goto (tgt := 3) hx hb dX10_feedFour_43 (by decide) ?_
  refine lv_iload_n hx hb dX10_feedFour_3 rfl (lv_at hl 0 rfl) ?_
  refine lv_if_lt (tgt := 46) hx hb dX10_feedFour_4 (by decide) (fun c_ => absurd c_ (by decide)) (fun _ => ?_)
  refine lv_aload_n hx hb dX10_feedFour_7 rfl (lv_at hl 1 rfl) ?_
  refine va_get (D := (dC, dI)) (ci := 10) (v := .int 11) (C := RX10) (T := TX10) (N := 19) hx hb hts iq_X10_feedFour_2_X10 hown hK hP 0 rfl rfl 13 (by decide) (hts (Cond.fieldLink RX10 105 "CodePress" "tapeSize" "I") (List.mem_of_getElem? (i := 1) rfl)) (fun _ h9 => h9) rfl dX10_feedFour_8 ?_
  refine lv_sipush (v := 3000) hx hb dX10_feedFour_11 (by decide) ?_
  refine lv_icmp_ge (tgt := 40) hx hb dX10_feedFour_14 (by decide) (fun c_ => absurd c_ (by decide)) (fun _ => ?_)
  refine lv_aload_n hx hb dX10_feedFour_17 rfl (lv_at hl 1 rfl) ?_
  refine va_get (D := (dC, dI)) (ci := 10) (v := .ref (fa0 0)) (C := RX10) (T := TX10) (N := 19) hx hb hts iq_X10_feedFour_2_X10 hown hK hP 0 rfl rfl 0 (by decide) (hts (Cond.fieldLink RX10 9 "CodePress" "tape" "[B") (List.mem_of_getElem? (i := 2) rfl)) (fun _ h9 => h9) rfl dX10_feedFour_18 ?_
  refine lv_aload_n hx hb dX10_feedFour_21 rfl (lv_at hl 1 rfl) ?_
  refine va_get (D := (dC, dI)) (ci := 10) (v := .int 11) (C := RX10) (T := TX10) (N := 19) hx hb hts iq_X10_feedFour_2_X10 hown hK hP 0 rfl rfl 13 (by decide) (hts (Cond.fieldLink RX10 105 "CodePress" "tapeSize" "I") (List.mem_of_getElem? (i := 1) rfl)) (fun _ h9 => h9) rfl dX10_feedFour_22 ?_
  refine lv_iload_n hx hb dX10_feedFour_25 rfl (lv_at hl 2 rfl) ?_
  refine lv_iload_n hx hb dX10_feedFour_26 rfl (lv_at hl 0 rfl) ?_
  refine lv_ishr hx hb dX10_feedFour_27 ?_
  refine lv_i2b (v := (x0 >>> (0 &&& 31)).toInt8.toInt32) hx hb dX10_feedFour_28 rfl ?_
  refine va_bast hx hb hK hP hD hS 1 0 rfl rfl (pq_in (by decide)) dX10_feedFour_29 (fun H locs hP hD hS => ?_)
  have hR9 : pq_R (dC, dI) vwCl A [(h0, .inr (10, [.ref (fa0 0), .ref (fa0 1), .ref (fa0 2), .ref (fa0 20), .ref (fa0 21), .ref (fa0 16), .ref (fa0 17), .ref (fa0 22), .ref (fa0 23), .ref (fa0 18), .ref (fa0 24), .ref (fa0 25), .ref (fa0 19), .int 11, .int 0, .int (-1), .int 0, .int 0, .int 0])), ((fa0 0), .inl (cB, 3000, .inl (upd (upd (upd (upd f0 8 (vp_nar .byte ((x0 >>> (24 &&& 31)).toInt8.toInt32))) 9 (vp_nar .byte ((x0 >>> (16 &&& 31)).toInt8.toInt32))) 10 (vp_nar .byte ((x0 >>> (8 &&& 31)).toInt8.toInt32))) 11 (vp_nar .byte ((x0 >>> (0 &&& 31)).toInt8.toInt32)))))] H := ⟨hP, hD⟩
  have hP := hR9.1
  have hD := hR9.2
  refine lv_aload_n hx hb dX10_feedFour_30 rfl (lv_at hl 1 rfl) ?_
  refine lv_dup hx hb dX10_feedFour_31 rfl ?_
  refine va_get (D := (dC, dI)) (ci := 10) (v := .int 11) (C := RX10) (T := TX10) (N := 19) hx hb hts iq_X10_feedFour_2_X10 hown hK hP 0 rfl rfl 13 (by decide) (hts (Cond.fieldLink RX10 105 "CodePress" "tapeSize" "I") (List.mem_of_getElem? (i := 1) rfl)) (fun _ h9 => h9) rfl dX10_feedFour_32 ?_
  refine lv_iconst (v := 1) hx hb dX10_feedFour_35 (by decide) ?_
  refine lv_iadd hx hb dX10_feedFour_36 ?_
  refine lv_topi (fun x4 ex4 => ?_)
  obtain rfl : x4 = 12 := ex4.trans (by decide)
  refine va_put (D := (dC, dI)) (ci := 10) (v := .int 12) (ty := .int) (C := RX10) (T := TX10) (N := 19) hx hb hts iq_X10_feedFour_2_X10 tyX10 tyX10_ok nmX10 hown hK hP hD hS 0 rfl rfl 13 (by decide) (hts (Cond.fieldLink RX10 105 "CodePress" "tapeSize" "I") (List.mem_of_getElem? (i := 1) rfl)) (fun _ h9 => h9) rfl (by decide +kernel) rfl rfl (Nat.le_of_ble_eq_true rfl) dX10_feedFour_37 (fun H locs hP hD hS => ?_)
  have hR9 : pq_R (dC, dI) vwCl A [(h0, .inr (10, [.ref (fa0 0), .ref (fa0 1), .ref (fa0 2), .ref (fa0 20), .ref (fa0 21), .ref (fa0 16), .ref (fa0 17), .ref (fa0 22), .ref (fa0 23), .ref (fa0 18), .ref (fa0 24), .ref (fa0 25), .ref (fa0 19), .int 12, .int 0, .int (-1), .int 0, .int 0, .int 0])), ((fa0 0), .inl (cB, 3000, .inl (upd (upd (upd (upd f0 8 (vp_nar .byte ((x0 >>> (24 &&& 31)).toInt8.toInt32))) 9 (vp_nar .byte ((x0 >>> (16 &&& 31)).toInt8.toInt32))) 10 (vp_nar .byte ((x0 >>> (8 &&& 31)).toInt8.toInt32))) 11 (vp_nar .byte ((x0 >>> (0 &&& 31)).toInt8.toInt32)))))] H := ⟨hP, hD⟩
  have hP := hR9.1
  have hD := hR9.2
  refine lv_iinc (v := (-8)) (lv' := [(2, .int (-8)), (0, .ref h0), (1, .int x0)]) hx hb dX10_feedFour_40 hl (k := 0) rfl (by decide) (by decide) rfl (fun ls hl => ?_)
  refine lv_goto (tgt := 3) hx hb dX10_feedFour_43 (by decide) ?_
  refine lv_iload_n hx hb dX10_feedFour_3 rfl (lv_at hl 0 rfl) ?_
  refine lv_if_lt (tgt := 46) hx hb dX10_feedFour_4 (by decide) (fun _ => ?_) (fun c_ => absurd (by decide) c_)
  have hP9 := pq_P.pick (wc := [(h0, .inr (10, [.ref (fa0 0), .ref (fa0 1), .ref (fa0 2), .ref (fa0 20), .ref (fa0 21), .ref (fa0 16), .ref (fa0 17), .ref (fa0 22), .ref (fa0 23), .ref (fa0 18), .ref (fa0 24), .ref (fa0 25), .ref (fa0 19), .int 12, .int 0, .int (-1), .int 0, .int 0, .int 0])), ((fa0 0), .inl (cB, 3000, .inl (upd (upd (upd (upd f0 8 (vp_nar .byte ((x0 >>> (24 &&& 31)).toInt8.toInt32))) 9 (vp_nar .byte ((x0 >>> (16 &&& 31)).toInt8.toInt32))) 10 (vp_nar .byte ((x0 >>> (8 &&& 31)).toInt8.toInt32))) 11 (vp_nar .byte ((x0 >>> (0 &&& 31)).toInt8.toInt32)))))]) hP [0, 1] rfl
  have hD9 := hD.sub (ws' := [(h0, .inr (10, [.ref (fa0 0), .ref (fa0 1), .ref (fa0 2), .ref (fa0 20), .ref (fa0 21), .ref (fa0 16), .ref (fa0 17), .ref (fa0 22), .ref (fa0 23), .ref (fa0 18), .ref (fa0 24), .ref (fa0 25), .ref (fa0 19), .int 12, .int 0, .int (-1), .int 0, .int 0, .int 0])), ((fa0 0), .inl (cB, 3000, .inl (upd (upd (upd (upd f0 8 (vp_nar .byte ((x0 >>> (24 &&& 31)).toInt8.toInt32))) 9 (vp_nar .byte ((x0 >>> (16 &&& 31)).toInt8.toInt32))) 10 (vp_nar .byte ((x0 >>> (8 &&& 31)).toInt8.toInt32))) 11 (vp_nar .byte ((x0 >>> (0 &&& 31)).toInt8.toInt32)))))]) [0, 1] (by decide) rfl
  refine W.widen (k := 0) (n := 0) (by decide +kernel) (by decide +kernel) ?_
  exact W.vret hx hb hr (fun t ht hW => ⟨⟨sq_u [] [], rfl, trivial, pq_B.of ht hP9 hD9⟩, hS.F ht⟩) hS.2.2 dX10_feedFour_46
def wq_X10_feedFour_3_r1 : List Cond := [Cond.fieldLink RX10 105 "CodePress" "tapeSize" "I", Cond.fieldLink RX10 9 "CodePress" "tape" "[B"]
def wq_X10_feedFour_3 : List Cond := Cond.code yX10_feedFour cX10_feedFour 3 none :: (wq_X10_feedFour_3_r1 ++ wsX100)
theorem iq_X10_feedFour_3_X10 : ∀ w ∈ wsX100, w ∈ wq_X10_feedFour_3 := fun _ h => List.mem_cons_of_mem _ (List.mem_append_right _ h)
set_option maxHeartbeats 4000000 in
set_option maxRecDepth 100000 in
theorem cq_X10_feedFour_3 (l : Launch) (dC : Nat → ClassId) (dI : Nat → Nat → Nat) (cB cI cJ cZ : ClassId) (h0 : Nat) (fa0 : Nat → Nat) (x0 : Int32) (f0 : Nat → Int32) (sz : Nat) : Met l yX10_feedFour wq_X10_feedFour_3 ({ frames := 0, cells := 0, slots := 0, locals := 0 }) (va_Pc [.ref h0, .int x0] (pq_W (dC, dI) vwCl (tyQ cB cI cJ cZ) [(h0, .inr (10, [.ref (fa0 0), .ref (fa0 1), .ref (fa0 2), .ref (fa0 20), .ref (fa0 21), .ref (fa0 16), .ref (fa0 17), .ref (fa0 22), .ref (fa0 23), .ref (fa0 18), .ref (fa0 24), .ref (fa0 25), .ref (fa0 19), .int 12, .int 0, .int (-1), .int 0, .int 0, .int 0])), ((fa0 0), .inl (cB, 3000, .inl f0))] sz)) (va_Qv (fun (_ : SQ) => True) (fun u => pq_B (dC, dI) vwCl [(h0, .inr (10, [.ref (fa0 0), .ref (fa0 1), .ref (fa0 2), .ref (fa0 20), .ref (fa0 21), .ref (fa0 16), .ref (fa0 17), .ref (fa0 22), .ref (fa0 23), .ref (fa0 18), .ref (fa0 24), .ref (fa0 25), .ref (fa0 19), .int 16, .int 0, .int (-1), .int 0, .int 0, .int 0])), ((fa0 0), .inl (cB, 3000, .inl (upd (upd (upd (upd f0 12 (vp_nar .byte ((x0 >>> (24 &&& 31)).toInt8.toInt32))) 13 (vp_nar .byte ((x0 >>> (16 &&& 31)).toInt8.toInt32))) 14 (vp_nar .byte ((x0 >>> (8 &&& 31)).toInt8.toInt32))) 15 (vp_nar .byte ((x0 >>> (0 &&& 31)).toInt8.toInt32)))))] (va_A [(h0, .inr (10, [.ref (fa0 0), .ref (fa0 1), .ref (fa0 2), .ref (fa0 20), .ref (fa0 21), .ref (fa0 16), .ref (fa0 17), .ref (fa0 22), .ref (fa0 23), .ref (fa0 18), .ref (fa0 24), .ref (fa0 25), .ref (fa0 19), .int 12, .int 0, .int (-1), .int 0, .int 0, .int 0])), ((fa0 0), .inl (cB, 3000, .inl f0))] sz)) (va_A [(h0, .inr (10, [.ref (fa0 0), .ref (fa0 1), .ref (fa0 2), .ref (fa0 20), .ref (fa0 21), .ref (fa0 16), .ref (fa0 17), .ref (fa0 22), .ref (fa0 23), .ref (fa0 18), .ref (fa0 24), .ref (fa0 25), .ref (fa0 19), .int 12, .int 0, .int (-1), .int 0, .int 0, .int 0])), ((fa0 0), .inl (cB, 3000, .inl f0))] sz)) 0 0 (va_A [(h0, .inr (10, [.ref (fa0 0), .ref (fa0 1), .ref (fa0 2), .ref (fa0 20), .ref (fa0 21), .ref (fa0 16), .ref (fa0 17), .ref (fa0 22), .ref (fa0 23), .ref (fa0 18), .ref (fa0 24), .ref (fa0 25), .ref (fa0 19), .int 12, .int 0, .int (-1), .int 0, .int 0, .int 0])), ((fa0 0), .inl (cB, 3000, .inl f0))] sz) := by
  refine Met.ofW (cc := cX10_feedFour) (maxL := 3) (ret := none) (by decide) rfl ?_
  intro p e s m args below meth c s₁ B hml hv
  obtain ⟨rfl, hsz, hP, hK, hD0⟩ := hv
  have hx := B.exec
  have hb := B.bytes
  have hr := B.returns
  have hts := atoms_spec (ws := wq_X10_feedFour_3) B.pre
  have hown : s.vm.findClass RX10 = some m.cls := findClass_of_methodNamed B.named
  have hlocks := B.notSynchronized
  subst hsz
  have hD := hD0.self (sz := s.heap.size)
  generalize hAe : va_A [(h0, .inr (10, [.ref (fa0 0), .ref (fa0 1), .ref (fa0 2), .ref (fa0 20), .ref (fa0 21), .ref (fa0 16), .ref (fa0 17), .ref (fa0 22), .ref (fa0 23), .ref (fa0 18), .ref (fa0 24), .ref (fa0 25), .ref (fa0 19), .int 12, .int 0, .int (-1), .int 0, .int 0, .int 0])), ((fa0 0), .inl (cB, 3000, .inl f0))] s.heap.size = A at hD ⊢
  have hA : ∀ q : Nat, s.heap.size ≤ q → A q := fun q h => by rw [← hAe]; exact Or.inr h
  have hS : va_S A s.heap s.heap [] := va_S.rf
  have hP : va_P (dC, dI) vwCl [(h0, .inr (10, [.ref (fa0 0), .ref (fa0 1), .ref (fa0 2), .ref (fa0 20), .ref (fa0 21), .ref (fa0 16), .ref (fa0 17), .ref (fa0 22), .ref (fa0 23), .ref (fa0 18), .ref (fa0 24), .ref (fa0 25), .ref (fa0 19), .int 12, .int 0, .int (-1), .int 0, .int 0, .int 0])), ((fa0 0), .inl (cB, 3000, .inl f0))] s.heap := hP
  obtain ⟨H, hH⟩ : ∃ H, H = s.heap := ⟨_, rfl⟩
  rw [← hH] at hP
  have hS : va_S A s.heap H [] := by rw [hH]; exact hS
  have hl := lv_entry ([.ref h0, .int x0]) (n := 3) (Nat.le_of_ble_eq_true rfl)
  rw [lg_entry_eq]
  generalize (lg_sl ([.ref h0, .int x0]) ++ List.replicate (3 - (lg_sl ([.ref h0, .int x0])).length) Slot.unset).toArray = ls at hl ⊢
  have hl : lv_has ls 3 [(0, .ref h0), (1, .int x0)] := hl
  refine pq_heap hH ?_
  refine lv_bipush (v := 24) hx hb dX10_feedFour_0 (by decide) ?_
  refine lv_istore_n (lv' := [(2, .int 24), (0, .ref h0), (1, .int x0)]) hx hb dX10_feedFour_2 rfl hl (by decide) rfl (fun ls hl => ?_)
  refine lv_iload_n hx hb dX10_feedFour_3 rfl (lv_at hl 0 rfl) ?_
  refine lv_if_lt (tgt := 46) hx hb dX10_feedFour_4 (by decide) (fun c_ => absurd c_ (by decide)) (fun _ => ?_)
  refine lv_aload_n hx hb dX10_feedFour_7 rfl (lv_at hl 1 rfl) ?_
  refine va_get (D := (dC, dI)) (ci := 10) (v := .int 12) (C := RX10) (T := TX10) (N := 19) hx hb hts iq_X10_feedFour_3_X10 hown hK hP 0 rfl rfl 13 (by decide) (hts (Cond.fieldLink RX10 105 "CodePress" "tapeSize" "I") (List.mem_of_getElem? (i := 1) rfl)) (fun _ h9 => h9) rfl dX10_feedFour_8 ?_
  refine lv_sipush (v := 3000) hx hb dX10_feedFour_11 (by decide) ?_
  refine lv_icmp_ge (tgt := 40) hx hb dX10_feedFour_14 (by decide) (fun c_ => absurd c_ (by decide)) (fun _ => ?_)
  refine lv_aload_n hx hb dX10_feedFour_17 rfl (lv_at hl 1 rfl) ?_
  refine va_get (D := (dC, dI)) (ci := 10) (v := .ref (fa0 0)) (C := RX10) (T := TX10) (N := 19) hx hb hts iq_X10_feedFour_3_X10 hown hK hP 0 rfl rfl 0 (by decide) (hts (Cond.fieldLink RX10 9 "CodePress" "tape" "[B") (List.mem_of_getElem? (i := 2) rfl)) (fun _ h9 => h9) rfl dX10_feedFour_18 ?_
  refine lv_aload_n hx hb dX10_feedFour_21 rfl (lv_at hl 1 rfl) ?_
  refine va_get (D := (dC, dI)) (ci := 10) (v := .int 12) (C := RX10) (T := TX10) (N := 19) hx hb hts iq_X10_feedFour_3_X10 hown hK hP 0 rfl rfl 13 (by decide) (hts (Cond.fieldLink RX10 105 "CodePress" "tapeSize" "I") (List.mem_of_getElem? (i := 1) rfl)) (fun _ h9 => h9) rfl dX10_feedFour_22 ?_
  refine lv_iload_n hx hb dX10_feedFour_25 rfl (lv_at hl 2 rfl) ?_
  refine lv_iload_n hx hb dX10_feedFour_26 rfl (lv_at hl 0 rfl) ?_
  refine lv_ishr hx hb dX10_feedFour_27 ?_
  refine lv_i2b (v := (x0 >>> (24 &&& 31)).toInt8.toInt32) hx hb dX10_feedFour_28 rfl ?_
  refine va_bast hx hb hK hP hD hS 1 0 rfl rfl (pq_in (by decide)) dX10_feedFour_29 (fun H locs hP hD hS => ?_)
  have hR9 : pq_R (dC, dI) vwCl A [(h0, .inr (10, [.ref (fa0 0), .ref (fa0 1), .ref (fa0 2), .ref (fa0 20), .ref (fa0 21), .ref (fa0 16), .ref (fa0 17), .ref (fa0 22), .ref (fa0 23), .ref (fa0 18), .ref (fa0 24), .ref (fa0 25), .ref (fa0 19), .int 12, .int 0, .int (-1), .int 0, .int 0, .int 0])), ((fa0 0), .inl (cB, 3000, .inl (upd f0 12 (vp_nar .byte ((x0 >>> (24 &&& 31)).toInt8.toInt32)))))] H := ⟨hP, hD⟩
  have hP := hR9.1
  have hD := hR9.2
  refine lv_aload_n hx hb dX10_feedFour_30 rfl (lv_at hl 1 rfl) ?_
  refine lv_dup hx hb dX10_feedFour_31 rfl ?_
  refine va_get (D := (dC, dI)) (ci := 10) (v := .int 12) (C := RX10) (T := TX10) (N := 19) hx hb hts iq_X10_feedFour_3_X10 hown hK hP 0 rfl rfl 13 (by decide) (hts (Cond.fieldLink RX10 105 "CodePress" "tapeSize" "I") (List.mem_of_getElem? (i := 1) rfl)) (fun _ h9 => h9) rfl dX10_feedFour_32 ?_
  refine lv_iconst (v := 1) hx hb dX10_feedFour_35 (by decide) ?_
  refine lv_iadd hx hb dX10_feedFour_36 ?_
  refine lv_topi (fun x1 ex1 => ?_)
  obtain rfl : x1 = 13 := ex1.trans (by decide)
  refine va_put (D := (dC, dI)) (ci := 10) (v := .int 13) (ty := .int) (C := RX10) (T := TX10) (N := 19) hx hb hts iq_X10_feedFour_3_X10 tyX10 tyX10_ok nmX10 hown hK hP hD hS 0 rfl rfl 13 (by decide) (hts (Cond.fieldLink RX10 105 "CodePress" "tapeSize" "I") (List.mem_of_getElem? (i := 1) rfl)) (fun _ h9 => h9) rfl (by decide +kernel) rfl rfl (Nat.le_of_ble_eq_true rfl) dX10_feedFour_37 (fun H locs hP hD hS => ?_)
  have hR9 : pq_R (dC, dI) vwCl A [(h0, .inr (10, [.ref (fa0 0), .ref (fa0 1), .ref (fa0 2), .ref (fa0 20), .ref (fa0 21), .ref (fa0 16), .ref (fa0 17), .ref (fa0 22), .ref (fa0 23), .ref (fa0 18), .ref (fa0 24), .ref (fa0 25), .ref (fa0 19), .int 13, .int 0, .int (-1), .int 0, .int 0, .int 0])), ((fa0 0), .inl (cB, 3000, .inl (upd f0 12 (vp_nar .byte ((x0 >>> (24 &&& 31)).toInt8.toInt32)))))] H := ⟨hP, hD⟩
  have hP := hR9.1
  have hD := hR9.2
  refine lv_iinc (v := 16) (lv' := [(2, .int 16), (0, .ref h0), (1, .int x0)]) hx hb dX10_feedFour_40 hl (k := 0) rfl (by decide) (by decide) rfl (fun ls hl => ?_)
  refine lv_goto (tgt := 3) hx hb dX10_feedFour_43 (by decide) ?_
  refine lv_iload_n hx hb dX10_feedFour_3 rfl (lv_at hl 0 rfl) ?_
  refine lv_if_lt (tgt := 46) hx hb dX10_feedFour_4 (by decide) (fun c_ => absurd c_ (by decide)) (fun _ => ?_)
  refine lv_aload_n hx hb dX10_feedFour_7 rfl (lv_at hl 1 rfl) ?_
  refine va_get (D := (dC, dI)) (ci := 10) (v := .int 13) (C := RX10) (T := TX10) (N := 19) hx hb hts iq_X10_feedFour_3_X10 hown hK hP 0 rfl rfl 13 (by decide) (hts (Cond.fieldLink RX10 105 "CodePress" "tapeSize" "I") (List.mem_of_getElem? (i := 1) rfl)) (fun _ h9 => h9) rfl dX10_feedFour_8 ?_
  refine lv_sipush (v := 3000) hx hb dX10_feedFour_11 (by decide) ?_
  refine lv_icmp_ge (tgt := 40) hx hb dX10_feedFour_14 (by decide) (fun c_ => absurd c_ (by decide)) (fun _ => ?_)
  refine lv_aload_n hx hb dX10_feedFour_17 rfl (lv_at hl 1 rfl) ?_
  refine va_get (D := (dC, dI)) (ci := 10) (v := .ref (fa0 0)) (C := RX10) (T := TX10) (N := 19) hx hb hts iq_X10_feedFour_3_X10 hown hK hP 0 rfl rfl 0 (by decide) (hts (Cond.fieldLink RX10 9 "CodePress" "tape" "[B") (List.mem_of_getElem? (i := 2) rfl)) (fun _ h9 => h9) rfl dX10_feedFour_18 ?_
  refine lv_aload_n hx hb dX10_feedFour_21 rfl (lv_at hl 1 rfl) ?_
  refine va_get (D := (dC, dI)) (ci := 10) (v := .int 13) (C := RX10) (T := TX10) (N := 19) hx hb hts iq_X10_feedFour_3_X10 hown hK hP 0 rfl rfl 13 (by decide) (hts (Cond.fieldLink RX10 105 "CodePress" "tapeSize" "I") (List.mem_of_getElem? (i := 1) rfl)) (fun _ h9 => h9) rfl dX10_feedFour_22 ?_
  refine lv_iload_n hx hb dX10_feedFour_25 rfl (lv_at hl 2 rfl) ?_
  refine lv_iload_n hx hb dX10_feedFour_26 rfl (lv_at hl 0 rfl) ?_
  refine lv_ishr hx hb dX10_feedFour_27 ?_
  refine lv_i2b (v := (x0 >>> (16 &&& 31)).toInt8.toInt32) hx hb dX10_feedFour_28 rfl ?_
  refine va_bast hx hb hK hP hD hS 1 0 rfl rfl (pq_in (by decide)) dX10_feedFour_29 (fun H locs hP hD hS => ?_)
  have hR9 : pq_R (dC, dI) vwCl A [(h0, .inr (10, [.ref (fa0 0), .ref (fa0 1), .ref (fa0 2), .ref (fa0 20), .ref (fa0 21), .ref (fa0 16), .ref (fa0 17), .ref (fa0 22), .ref (fa0 23), .ref (fa0 18), .ref (fa0 24), .ref (fa0 25), .ref (fa0 19), .int 13, .int 0, .int (-1), .int 0, .int 0, .int 0])), ((fa0 0), .inl (cB, 3000, .inl (upd (upd f0 12 (vp_nar .byte ((x0 >>> (24 &&& 31)).toInt8.toInt32))) 13 (vp_nar .byte ((x0 >>> (16 &&& 31)).toInt8.toInt32)))))] H := ⟨hP, hD⟩
  have hP := hR9.1
  have hD := hR9.2
  refine lv_aload_n hx hb dX10_feedFour_30 rfl (lv_at hl 1 rfl) ?_
  refine lv_dup hx hb dX10_feedFour_31 rfl ?_
  refine va_get (D := (dC, dI)) (ci := 10) (v := .int 13) (C := RX10) (T := TX10) (N := 19) hx hb hts iq_X10_feedFour_3_X10 hown hK hP 0 rfl rfl 13 (by decide) (hts (Cond.fieldLink RX10 105 "CodePress" "tapeSize" "I") (List.mem_of_getElem? (i := 1) rfl)) (fun _ h9 => h9) rfl dX10_feedFour_32 ?_
  refine lv_iconst (v := 1) hx hb dX10_feedFour_35 (by decide) ?_
  refine lv_iadd hx hb dX10_feedFour_36 ?_
  refine lv_topi (fun x2 ex2 => ?_)
  obtain rfl : x2 = 14 := ex2.trans (by decide)
  refine va_put (D := (dC, dI)) (ci := 10) (v := .int 14) (ty := .int) (C := RX10) (T := TX10) (N := 19) hx hb hts iq_X10_feedFour_3_X10 tyX10 tyX10_ok nmX10 hown hK hP hD hS 0 rfl rfl 13 (by decide) (hts (Cond.fieldLink RX10 105 "CodePress" "tapeSize" "I") (List.mem_of_getElem? (i := 1) rfl)) (fun _ h9 => h9) rfl (by decide +kernel) rfl rfl (Nat.le_of_ble_eq_true rfl) dX10_feedFour_37 (fun H locs hP hD hS => ?_)
  have hR9 : pq_R (dC, dI) vwCl A [(h0, .inr (10, [.ref (fa0 0), .ref (fa0 1), .ref (fa0 2), .ref (fa0 20), .ref (fa0 21), .ref (fa0 16), .ref (fa0 17), .ref (fa0 22), .ref (fa0 23), .ref (fa0 18), .ref (fa0 24), .ref (fa0 25), .ref (fa0 19), .int 14, .int 0, .int (-1), .int 0, .int 0, .int 0])), ((fa0 0), .inl (cB, 3000, .inl (upd (upd f0 12 (vp_nar .byte ((x0 >>> (24 &&& 31)).toInt8.toInt32))) 13 (vp_nar .byte ((x0 >>> (16 &&& 31)).toInt8.toInt32)))))] H := ⟨hP, hD⟩
  have hP := hR9.1
  have hD := hR9.2
  refine lv_iinc (v := 8) (lv' := [(2, .int 8), (0, .ref h0), (1, .int x0)]) hx hb dX10_feedFour_40 hl (k := 0) rfl (by decide) (by decide) rfl (fun ls hl => ?_)
  refine lv_goto (tgt := 3) hx hb dX10_feedFour_43 (by decide) ?_
  refine lv_iload_n hx hb dX10_feedFour_3 rfl (lv_at hl 0 rfl) ?_
  refine lv_if_lt (tgt := 46) hx hb dX10_feedFour_4 (by decide) (fun c_ => absurd c_ (by decide)) (fun _ => ?_)
  refine lv_aload_n hx hb dX10_feedFour_7 rfl (lv_at hl 1 rfl) ?_
  refine va_get (D := (dC, dI)) (ci := 10) (v := .int 14) (C := RX10) (T := TX10) (N := 19) hx hb hts iq_X10_feedFour_3_X10 hown hK hP 0 rfl rfl 13 (by decide) (hts (Cond.fieldLink RX10 105 "CodePress" "tapeSize" "I") (List.mem_of_getElem? (i := 1) rfl)) (fun _ h9 => h9) rfl dX10_feedFour_8 ?_
  refine lv_sipush (v := 3000) hx hb dX10_feedFour_11 (by decide) ?_
  refine lv_icmp_ge (tgt := 40) hx hb dX10_feedFour_14 (by decide) (fun c_ => absurd c_ (by decide)) (fun _ => ?_)
  refine lv_aload_n hx hb dX10_feedFour_17 rfl (lv_at hl 1 rfl) ?_
  refine va_get (D := (dC, dI)) (ci := 10) (v := .ref (fa0 0)) (C := RX10) (T := TX10) (N := 19) hx hb hts iq_X10_feedFour_3_X10 hown hK hP 0 rfl rfl 0 (by decide) (hts (Cond.fieldLink RX10 9 "CodePress" "tape" "[B") (List.mem_of_getElem? (i := 2) rfl)) (fun _ h9 => h9) rfl dX10_feedFour_18 ?_
  refine lv_aload_n hx hb dX10_feedFour_21 rfl (lv_at hl 1 rfl) ?_
  refine va_get (D := (dC, dI)) (ci := 10) (v := .int 14) (C := RX10) (T := TX10) (N := 19) hx hb hts iq_X10_feedFour_3_X10 hown hK hP 0 rfl rfl 13 (by decide) (hts (Cond.fieldLink RX10 105 "CodePress" "tapeSize" "I") (List.mem_of_getElem? (i := 1) rfl)) (fun _ h9 => h9) rfl dX10_feedFour_22 ?_
  refine lv_iload_n hx hb dX10_feedFour_25 rfl (lv_at hl 2 rfl) ?_
  refine lv_iload_n hx hb dX10_feedFour_26 rfl (lv_at hl 0 rfl) ?_
  refine lv_ishr hx hb dX10_feedFour_27 ?_
  refine lv_i2b (v := (x0 >>> (8 &&& 31)).toInt8.toInt32) hx hb dX10_feedFour_28 rfl ?_
  refine va_bast hx hb hK hP hD hS 1 0 rfl rfl (pq_in (by decide)) dX10_feedFour_29 (fun H locs hP hD hS => ?_)
  have hR9 : pq_R (dC, dI) vwCl A [(h0, .inr (10, [.ref (fa0 0), .ref (fa0 1), .ref (fa0 2), .ref (fa0 20), .ref (fa0 21), .ref (fa0 16), .ref (fa0 17), .ref (fa0 22), .ref (fa0 23), .ref (fa0 18), .ref (fa0 24), .ref (fa0 25), .ref (fa0 19), .int 14, .int 0, .int (-1), .int 0, .int 0, .int 0])), ((fa0 0), .inl (cB, 3000, .inl (upd (upd (upd f0 12 (vp_nar .byte ((x0 >>> (24 &&& 31)).toInt8.toInt32))) 13 (vp_nar .byte ((x0 >>> (16 &&& 31)).toInt8.toInt32))) 14 (vp_nar .byte ((x0 >>> (8 &&& 31)).toInt8.toInt32)))))] H := ⟨hP, hD⟩
  have hP := hR9.1
  have hD := hR9.2
  refine lv_aload_n hx hb dX10_feedFour_30 rfl (lv_at hl 1 rfl) ?_
  refine lv_dup hx hb dX10_feedFour_31 rfl ?_
  refine va_get (D := (dC, dI)) (ci := 10) (v := .int 14) (C := RX10) (T := TX10) (N := 19) hx hb hts iq_X10_feedFour_3_X10 hown hK hP 0 rfl rfl 13 (by decide) (hts (Cond.fieldLink RX10 105 "CodePress" "tapeSize" "I") (List.mem_of_getElem? (i := 1) rfl)) (fun _ h9 => h9) rfl dX10_feedFour_32 ?_
  refine lv_iconst (v := 1) hx hb dX10_feedFour_35 (by decide) ?_
  refine lv_iadd hx hb dX10_feedFour_36 ?_
  refine lv_topi (fun x3 ex3 => ?_)
  obtain rfl : x3 = 15 := ex3.trans (by decide)
  refine va_put (D := (dC, dI)) (ci := 10) (v := .int 15) (ty := .int) (C := RX10) (T := TX10) (N := 19) hx hb hts iq_X10_feedFour_3_X10 tyX10 tyX10_ok nmX10 hown hK hP hD hS 0 rfl rfl 13 (by decide) (hts (Cond.fieldLink RX10 105 "CodePress" "tapeSize" "I") (List.mem_of_getElem? (i := 1) rfl)) (fun _ h9 => h9) rfl (by decide +kernel) rfl rfl (Nat.le_of_ble_eq_true rfl) dX10_feedFour_37 (fun H locs hP hD hS => ?_)
  have hR9 : pq_R (dC, dI) vwCl A [(h0, .inr (10, [.ref (fa0 0), .ref (fa0 1), .ref (fa0 2), .ref (fa0 20), .ref (fa0 21), .ref (fa0 16), .ref (fa0 17), .ref (fa0 22), .ref (fa0 23), .ref (fa0 18), .ref (fa0 24), .ref (fa0 25), .ref (fa0 19), .int 15, .int 0, .int (-1), .int 0, .int 0, .int 0])), ((fa0 0), .inl (cB, 3000, .inl (upd (upd (upd f0 12 (vp_nar .byte ((x0 >>> (24 &&& 31)).toInt8.toInt32))) 13 (vp_nar .byte ((x0 >>> (16 &&& 31)).toInt8.toInt32))) 14 (vp_nar .byte ((x0 >>> (8 &&& 31)).toInt8.toInt32)))))] H := ⟨hP, hD⟩
  have hP := hR9.1
  have hD := hR9.2
  refine lv_iinc (v := 0) (lv' := [(2, .int 0), (0, .ref h0), (1, .int x0)]) hx hb dX10_feedFour_40 hl (k := 0) rfl (by decide) (by decide) rfl (fun ls hl => ?_)
  refine lv_goto (tgt := 3) hx hb dX10_feedFour_43 (by decide) ?_
  refine lv_iload_n hx hb dX10_feedFour_3 rfl (lv_at hl 0 rfl) ?_
  refine lv_if_lt (tgt := 46) hx hb dX10_feedFour_4 (by decide) (fun c_ => absurd c_ (by decide)) (fun _ => ?_)
  refine lv_aload_n hx hb dX10_feedFour_7 rfl (lv_at hl 1 rfl) ?_
  refine va_get (D := (dC, dI)) (ci := 10) (v := .int 15) (C := RX10) (T := TX10) (N := 19) hx hb hts iq_X10_feedFour_3_X10 hown hK hP 0 rfl rfl 13 (by decide) (hts (Cond.fieldLink RX10 105 "CodePress" "tapeSize" "I") (List.mem_of_getElem? (i := 1) rfl)) (fun _ h9 => h9) rfl dX10_feedFour_8 ?_
  refine lv_sipush (v := 3000) hx hb dX10_feedFour_11 (by decide) ?_
  refine lv_icmp_ge (tgt := 40) hx hb dX10_feedFour_14 (by decide) (fun c_ => absurd c_ (by decide)) (fun _ => ?_)
  refine lv_aload_n hx hb dX10_feedFour_17 rfl (lv_at hl 1 rfl) ?_
  refine va_get (D := (dC, dI)) (ci := 10) (v := .ref (fa0 0)) (C := RX10) (T := TX10) (N := 19) hx hb hts iq_X10_feedFour_3_X10 hown hK hP 0 rfl rfl 0 (by decide) (hts (Cond.fieldLink RX10 9 "CodePress" "tape" "[B") (List.mem_of_getElem? (i := 2) rfl)) (fun _ h9 => h9) rfl dX10_feedFour_18 ?_
  refine lv_aload_n hx hb dX10_feedFour_21 rfl (lv_at hl 1 rfl) ?_
  refine va_get (D := (dC, dI)) (ci := 10) (v := .int 15) (C := RX10) (T := TX10) (N := 19) hx hb hts iq_X10_feedFour_3_X10 hown hK hP 0 rfl rfl 13 (by decide) (hts (Cond.fieldLink RX10 105 "CodePress" "tapeSize" "I") (List.mem_of_getElem? (i := 1) rfl)) (fun _ h9 => h9) rfl dX10_feedFour_22 ?_
  refine lv_iload_n hx hb dX10_feedFour_25 rfl (lv_at hl 2 rfl) ?_
  refine lv_iload_n hx hb dX10_feedFour_26 rfl (lv_at hl 0 rfl) ?_
  refine lv_ishr hx hb dX10_feedFour_27 ?_
  refine lv_i2b (v := (x0 >>> (0 &&& 31)).toInt8.toInt32) hx hb dX10_feedFour_28 rfl ?_
  refine va_bast hx hb hK hP hD hS 1 0 rfl rfl (pq_in (by decide)) dX10_feedFour_29 (fun H locs hP hD hS => ?_)
  have hR9 : pq_R (dC, dI) vwCl A [(h0, .inr (10, [.ref (fa0 0), .ref (fa0 1), .ref (fa0 2), .ref (fa0 20), .ref (fa0 21), .ref (fa0 16), .ref (fa0 17), .ref (fa0 22), .ref (fa0 23), .ref (fa0 18), .ref (fa0 24), .ref (fa0 25), .ref (fa0 19), .int 15, .int 0, .int (-1), .int 0, .int 0, .int 0])), ((fa0 0), .inl (cB, 3000, .inl (upd (upd (upd (upd f0 12 (vp_nar .byte ((x0 >>> (24 &&& 31)).toInt8.toInt32))) 13 (vp_nar .byte ((x0 >>> (16 &&& 31)).toInt8.toInt32))) 14 (vp_nar .byte ((x0 >>> (8 &&& 31)).toInt8.toInt32))) 15 (vp_nar .byte ((x0 >>> (0 &&& 31)).toInt8.toInt32)))))] H := ⟨hP, hD⟩
  have hP := hR9.1
  have hD := hR9.2
  refine lv_aload_n hx hb dX10_feedFour_30 rfl (lv_at hl 1 rfl) ?_
  refine lv_dup hx hb dX10_feedFour_31 rfl ?_
  refine va_get (D := (dC, dI)) (ci := 10) (v := .int 15) (C := RX10) (T := TX10) (N := 19) hx hb hts iq_X10_feedFour_3_X10 hown hK hP 0 rfl rfl 13 (by decide) (hts (Cond.fieldLink RX10 105 "CodePress" "tapeSize" "I") (List.mem_of_getElem? (i := 1) rfl)) (fun _ h9 => h9) rfl dX10_feedFour_32 ?_
  refine lv_iconst (v := 1) hx hb dX10_feedFour_35 (by decide) ?_
  refine lv_iadd hx hb dX10_feedFour_36 ?_
  refine lv_topi (fun x4 ex4 => ?_)
  obtain rfl : x4 = 16 := ex4.trans (by decide)
  refine va_put (D := (dC, dI)) (ci := 10) (v := .int 16) (ty := .int) (C := RX10) (T := TX10) (N := 19) hx hb hts iq_X10_feedFour_3_X10 tyX10 tyX10_ok nmX10 hown hK hP hD hS 0 rfl rfl 13 (by decide) (hts (Cond.fieldLink RX10 105 "CodePress" "tapeSize" "I") (List.mem_of_getElem? (i := 1) rfl)) (fun _ h9 => h9) rfl (by decide +kernel) rfl rfl (Nat.le_of_ble_eq_true rfl) dX10_feedFour_37 (fun H locs hP hD hS => ?_)
  have hR9 : pq_R (dC, dI) vwCl A [(h0, .inr (10, [.ref (fa0 0), .ref (fa0 1), .ref (fa0 2), .ref (fa0 20), .ref (fa0 21), .ref (fa0 16), .ref (fa0 17), .ref (fa0 22), .ref (fa0 23), .ref (fa0 18), .ref (fa0 24), .ref (fa0 25), .ref (fa0 19), .int 16, .int 0, .int (-1), .int 0, .int 0, .int 0])), ((fa0 0), .inl (cB, 3000, .inl (upd (upd (upd (upd f0 12 (vp_nar .byte ((x0 >>> (24 &&& 31)).toInt8.toInt32))) 13 (vp_nar .byte ((x0 >>> (16 &&& 31)).toInt8.toInt32))) 14 (vp_nar .byte ((x0 >>> (8 &&& 31)).toInt8.toInt32))) 15 (vp_nar .byte ((x0 >>> (0 &&& 31)).toInt8.toInt32)))))] H := ⟨hP, hD⟩
  have hP := hR9.1
  have hD := hR9.2
  refine lv_iinc (v := (-8)) (lv' := [(2, .int (-8)), (0, .ref h0), (1, .int x0)]) hx hb dX10_feedFour_40 hl (k := 0) rfl (by decide) (by decide) rfl (fun ls hl => ?_)
  refine lv_goto (tgt := 3) hx hb dX10_feedFour_43 (by decide) ?_
  refine lv_iload_n hx hb dX10_feedFour_3 rfl (lv_at hl 0 rfl) ?_
  refine lv_if_lt (tgt := 46) hx hb dX10_feedFour_4 (by decide) (fun _ => ?_) (fun c_ => absurd (by decide) c_)
  have hP9 := pq_P.pick (wc := [(h0, .inr (10, [.ref (fa0 0), .ref (fa0 1), .ref (fa0 2), .ref (fa0 20), .ref (fa0 21), .ref (fa0 16), .ref (fa0 17), .ref (fa0 22), .ref (fa0 23), .ref (fa0 18), .ref (fa0 24), .ref (fa0 25), .ref (fa0 19), .int 16, .int 0, .int (-1), .int 0, .int 0, .int 0])), ((fa0 0), .inl (cB, 3000, .inl (upd (upd (upd (upd f0 12 (vp_nar .byte ((x0 >>> (24 &&& 31)).toInt8.toInt32))) 13 (vp_nar .byte ((x0 >>> (16 &&& 31)).toInt8.toInt32))) 14 (vp_nar .byte ((x0 >>> (8 &&& 31)).toInt8.toInt32))) 15 (vp_nar .byte ((x0 >>> (0 &&& 31)).toInt8.toInt32)))))]) hP [0, 1] rfl
  have hD9 := hD.sub (ws' := [(h0, .inr (10, [.ref (fa0 0), .ref (fa0 1), .ref (fa0 2), .ref (fa0 20), .ref (fa0 21), .ref (fa0 16), .ref (fa0 17), .ref (fa0 22), .ref (fa0 23), .ref (fa0 18), .ref (fa0 24), .ref (fa0 25), .ref (fa0 19), .int 16, .int 0, .int (-1), .int 0, .int 0, .int 0])), ((fa0 0), .inl (cB, 3000, .inl (upd (upd (upd (upd f0 12 (vp_nar .byte ((x0 >>> (24 &&& 31)).toInt8.toInt32))) 13 (vp_nar .byte ((x0 >>> (16 &&& 31)).toInt8.toInt32))) 14 (vp_nar .byte ((x0 >>> (8 &&& 31)).toInt8.toInt32))) 15 (vp_nar .byte ((x0 >>> (0 &&& 31)).toInt8.toInt32)))))]) [0, 1] (by decide) rfl
  refine W.widen (k := 0) (n := 0) (by decide +kernel) (by decide +kernel) ?_
  exact W.vret hx hb hr (fun t ht hW => ⟨⟨sq_u [] [], rfl, trivial, pq_B.of ht hP9 hD9⟩, hS.F ht⟩) hS.2.2 dX10_feedFour_46
def wq_X10_feedFour_4_r1 : List Cond := [Cond.fieldLink RX10 105 "CodePress" "tapeSize" "I", Cond.fieldLink RX10 9 "CodePress" "tape" "[B"]
def wq_X10_feedFour_4 : List Cond := Cond.code yX10_feedFour cX10_feedFour 3 none :: (wq_X10_feedFour_4_r1 ++ wsX100)
theorem iq_X10_feedFour_4_X10 : ∀ w ∈ wsX100, w ∈ wq_X10_feedFour_4 := fun _ h => List.mem_cons_of_mem _ (List.mem_append_right _ h)
set_option maxHeartbeats 4000000 in
set_option maxRecDepth 100000 in
theorem cq_X10_feedFour_4 (l : Launch) (dC : Nat → ClassId) (dI : Nat → Nat → Nat) (cB cI cJ cZ : ClassId) (h0 : Nat) (fa0 : Nat → Nat) (x0 : Int32) (f0 : Nat → Int32) (sz : Nat) : Met l yX10_feedFour wq_X10_feedFour_4 ({ frames := 0, cells := 0, slots := 0, locals := 0 }) (va_Pc [.ref h0, .int x0] (pq_W (dC, dI) vwCl (tyQ cB cI cJ cZ) [(h0, .inr (10, [.ref (fa0 0), .ref (fa0 1), .ref (fa0 2), .ref (fa0 20), .ref (fa0 21), .ref (fa0 16), .ref (fa0 17), .ref (fa0 22), .ref (fa0 23), .ref (fa0 18), .ref (fa0 24), .ref (fa0 25), .ref (fa0 19), .int 16, .int 0, .int (-1), .int 0, .int 0, .int 0])), ((fa0 0), .inl (cB, 3000, .inl f0))] sz)) (va_Qv (fun (_ : SQ) => True) (fun u => pq_B (dC, dI) vwCl [(h0, .inr (10, [.ref (fa0 0), .ref (fa0 1), .ref (fa0 2), .ref (fa0 20), .ref (fa0 21), .ref (fa0 16), .ref (fa0 17), .ref (fa0 22), .ref (fa0 23), .ref (fa0 18), .ref (fa0 24), .ref (fa0 25), .ref (fa0 19), .int 20, .int 0, .int (-1), .int 0, .int 0, .int 0])), ((fa0 0), .inl (cB, 3000, .inl (upd (upd (upd (upd f0 16 (vp_nar .byte ((x0 >>> (24 &&& 31)).toInt8.toInt32))) 17 (vp_nar .byte ((x0 >>> (16 &&& 31)).toInt8.toInt32))) 18 (vp_nar .byte ((x0 >>> (8 &&& 31)).toInt8.toInt32))) 19 (vp_nar .byte ((x0 >>> (0 &&& 31)).toInt8.toInt32)))))] (va_A [(h0, .inr (10, [.ref (fa0 0), .ref (fa0 1), .ref (fa0 2), .ref (fa0 20), .ref (fa0 21), .ref (fa0 16), .ref (fa0 17), .ref (fa0 22), .ref (fa0 23), .ref (fa0 18), .ref (fa0 24), .ref (fa0 25), .ref (fa0 19), .int 16, .int 0, .int (-1), .int 0, .int 0, .int 0])), ((fa0 0), .inl (cB, 3000, .inl f0))] sz)) (va_A [(h0, .inr (10, [.ref (fa0 0), .ref (fa0 1), .ref (fa0 2), .ref (fa0 20), .ref (fa0 21), .ref (fa0 16), .ref (fa0 17), .ref (fa0 22), .ref (fa0 23), .ref (fa0 18), .ref (fa0 24), .ref (fa0 25), .ref (fa0 19), .int 16, .int 0, .int (-1), .int 0, .int 0, .int 0])), ((fa0 0), .inl (cB, 3000, .inl f0))] sz)) 0 0 (va_A [(h0, .inr (10, [.ref (fa0 0), .ref (fa0 1), .ref (fa0 2), .ref (fa0 20), .ref (fa0 21), .ref (fa0 16), .ref (fa0 17), .ref (fa0 22), .ref (fa0 23), .ref (fa0 18), .ref (fa0 24), .ref (fa0 25), .ref (fa0 19), .int 16, .int 0, .int (-1), .int 0, .int 0, .int 0])), ((fa0 0), .inl (cB, 3000, .inl f0))] sz) := by
  refine Met.ofW (cc := cX10_feedFour) (maxL := 3) (ret := none) (by decide) rfl ?_
  intro p e s m args below meth c s₁ B hml hv
  obtain ⟨rfl, hsz, hP, hK, hD0⟩ := hv
  have hx := B.exec
  have hb := B.bytes
  have hr := B.returns
  have hts := atoms_spec (ws := wq_X10_feedFour_4) B.pre
  have hown : s.vm.findClass RX10 = some m.cls := findClass_of_methodNamed B.named
  have hlocks := B.notSynchronized
  subst hsz
  have hD := hD0.self (sz := s.heap.size)
  generalize hAe : va_A [(h0, .inr (10, [.ref (fa0 0), .ref (fa0 1), .ref (fa0 2), .ref (fa0 20), .ref (fa0 21), .ref (fa0 16), .ref (fa0 17), .ref (fa0 22), .ref (fa0 23), .ref (fa0 18), .ref (fa0 24), .ref (fa0 25), .ref (fa0 19), .int 16, .int 0, .int (-1), .int 0, .int 0, .int 0])), ((fa0 0), .inl (cB, 3000, .inl f0))] s.heap.size = A at hD ⊢
  have hA : ∀ q : Nat, s.heap.size ≤ q → A q := fun q h => by rw [← hAe]; exact Or.inr h
  have hS : va_S A s.heap s.heap [] := va_S.rf
  have hP : va_P (dC, dI) vwCl [(h0, .inr (10, [.ref (fa0 0), .ref (fa0 1), .ref (fa0 2), .ref (fa0 20), .ref (fa0 21), .ref (fa0 16), .ref (fa0 17), .ref (fa0 22), .ref (fa0 23), .ref (fa0 18), .ref (fa0 24), .ref (fa0 25), .ref (fa0 19), .int 16, .int 0, .int (-1), .int 0, .int 0, .int 0])), ((fa0 0), .inl (cB, 3000, .inl f0))] s.heap := hP
  obtain ⟨H, hH⟩ : ∃ H, H = s.heap := ⟨_, rfl⟩
  rw [← hH] at hP
  have hS : va_S A s.heap H [] := by rw [hH]; exact hS
  have hl := lv_entry ([.ref h0, .int x0]) (n := 3) (Nat.le_of_ble_eq_true rfl)
  rw [lg_entry_eq]
  generalize (lg_sl ([.ref h0, .int x0]) ++ List.replicate (3 - (lg_sl ([.ref h0, .int x0])).length) Slot.unset).toArray = ls at hl ⊢
  have hl : lv_has ls 3 [(0, .ref h0), (1, .int x0)] := hl
  refine pq_heap hH ?_
  refine lv_bipush (v := 24) hx hb dX10_feedFour_0 (by decide) ?_
  refine lv_istore_n (lv' := [(2, .int 24), (0, .ref h0), (1, .int x0)]) hx hb dX10_feedFour_2 rfl hl (by decide) rfl (fun ls hl => ?_)
  refine lv_iload_n hx hb dX10_feedFour_3 rfl (lv_at hl 0 rfl) ?_
  refine lv_if_lt (tgt := 46) hx hb dX10_feedFour_4 (by decide) (fun c_ => absurd c_ (by decide)) (fun _ => ?_)
  refine lv_aload_n hx hb dX10_feedFour_7 rfl (lv_at hl 1 rfl) ?_
  refine va_get (D := (dC, dI)) (ci := 10) (v := .int 16) (C := RX10) (T := TX10) (N := 19) hx hb hts iq_X10_feedFour_4_X10 hown hK hP 0 rfl rfl 13 (by decide) (hts (Cond.fieldLink RX10 105 "CodePress" "tapeSize" "I") (List.mem_of_getElem? (i := 1) rfl)) (fun _ h9 => h9) rfl dX10_feedFour_8 ?_
  refine lv_sipush (v := 3000) hx hb dX10_feedFour_11 (by decide) ?_
  refine lv_icmp_ge (tgt := 40) hx hb dX10_feedFour_14 (by decide) (fun c_ => absurd c_ (by decide)) (fun _ => ?_)
  refine lv_aload_n hx hb dX10_feedFour_17 rfl (lv_at hl 1 rfl) ?_
  refine va_get (D := (dC, dI)) (ci := 10) (v := .ref (fa0 0)) (C := RX10) (T := TX10) (N := 19) hx hb hts iq_X10_feedFour_4_X10 hown hK hP 0 rfl rfl 0 (by decide) (hts (Cond.fieldLink RX10 9 "CodePress" "tape" "[B") (List.mem_of_getElem? (i := 2) rfl)) (fun _ h9 => h9) rfl dX10_feedFour_18 ?_
  refine lv_aload_n hx hb dX10_feedFour_21 rfl (lv_at hl 1 rfl) ?_
  refine va_get (D := (dC, dI)) (ci := 10) (v := .int 16) (C := RX10) (T := TX10) (N := 19) hx hb hts iq_X10_feedFour_4_X10 hown hK hP 0 rfl rfl 13 (by decide) (hts (Cond.fieldLink RX10 105 "CodePress" "tapeSize" "I") (List.mem_of_getElem? (i := 1) rfl)) (fun _ h9 => h9) rfl dX10_feedFour_22 ?_
  refine lv_iload_n hx hb dX10_feedFour_25 rfl (lv_at hl 2 rfl) ?_
  refine lv_iload_n hx hb dX10_feedFour_26 rfl (lv_at hl 0 rfl) ?_
  refine lv_ishr hx hb dX10_feedFour_27 ?_
  refine lv_i2b (v := (x0 >>> (24 &&& 31)).toInt8.toInt32) hx hb dX10_feedFour_28 rfl ?_
  refine va_bast hx hb hK hP hD hS 1 0 rfl rfl (pq_in (by decide)) dX10_feedFour_29 (fun H locs hP hD hS => ?_)
  have hR9 : pq_R (dC, dI) vwCl A [(h0, .inr (10, [.ref (fa0 0), .ref (fa0 1), .ref (fa0 2), .ref (fa0 20), .ref (fa0 21), .ref (fa0 16), .ref (fa0 17), .ref (fa0 22), .ref (fa0 23), .ref (fa0 18), .ref (fa0 24), .ref (fa0 25), .ref (fa0 19), .int 16, .int 0, .int (-1), .int 0, .int 0, .int 0])), ((fa0 0), .inl (cB, 3000, .inl (upd f0 16 (vp_nar .byte ((x0 >>> (24 &&& 31)).toInt8.toInt32)))))] H := ⟨hP, hD⟩
  have hP := hR9.1
  have hD := hR9.2
  refine lv_aload_n hx hb dX10_feedFour_30 rfl (lv_at hl 1 rfl) ?_
  refine lv_dup hx hb dX10_feedFour_31 rfl ?_
  refine va_get (D := (dC, dI)) (ci := 10) (v := .int 16) (C := RX10) (T := TX10) (N := 19) hx hb hts iq_X10_feedFour_4_X10 hown hK hP 0 rfl rfl 13 (by decide) (hts (Cond.fieldLink RX10 105 "CodePress" "tapeSize" "I") (List.mem_of_getElem? (i := 1) rfl)) (fun _ h9 => h9) rfl dX10_feedFour_32 ?_
  refine lv_iconst (v := 1) hx hb dX10_feedFour_35 (by decide) ?_
  refine lv_iadd hx hb dX10_feedFour_36 ?_
  refine lv_topi (fun x1 ex1 => ?_)
  obtain rfl : x1 = 17 := ex1.trans (by decide)
  refine va_put (D := (dC, dI)) (ci := 10) (v := .int 17) (ty := .int) (C := RX10) (T := TX10) (N := 19) hx hb hts iq_X10_feedFour_4_X10 tyX10 tyX10_ok nmX10 hown hK hP hD hS 0 rfl rfl 13 (by decide) (hts (Cond.fieldLink RX10 105 "CodePress" "tapeSize" "I") (List.mem_of_getElem? (i := 1) rfl)) (fun _ h9 => h9) rfl (by decide +kernel) rfl rfl (Nat.le_of_ble_eq_true rfl) dX10_feedFour_37 (fun H locs hP hD hS => ?_)
  have hR9 : pq_R (dC, dI) vwCl A [(h0, .inr (10, [.ref (fa0 0), .ref (fa0 1), .ref (fa0 2), .ref (fa0 20), .ref (fa0 21), .ref (fa0 16), .ref (fa0 17), .ref (fa0 22), .ref (fa0 23), .ref (fa0 18), .ref (fa0 24), .ref (fa0 25), .ref (fa0 19), .int 17, .int 0, .int (-1), .int 0, .int 0, .int 0])), ((fa0 0), .inl (cB, 3000, .inl (upd f0 16 (vp_nar .byte ((x0 >>> (24 &&& 31)).toInt8.toInt32)))))] H := ⟨hP, hD⟩
  have hP := hR9.1
  have hD := hR9.2
  refine lv_iinc (v := 16) (lv' := [(2, .int 16), (0, .ref h0), (1, .int x0)]) hx hb dX10_feedFour_40 hl (k := 0) rfl (by decide) (by decide) rfl (fun ls hl => ?_)
  refine lv_goto (tgt := 3) hx hb dX10_feedFour_43 (by decide) ?_
  refine lv_iload_n hx hb dX10_feedFour_3 rfl (lv_at hl 0 rfl) ?_
  refine lv_if_lt (tgt := 46) hx hb dX10_feedFour_4 (by decide) (fun c_ => absurd c_ (by decide)) (fun _ => ?_)
  refine lv_aload_n hx hb dX10_feedFour_7 rfl (lv_at hl 1 rfl) ?_
  refine va_get (D := (dC, dI)) (ci := 10) (v := .int 17) (C := RX10) (T := TX10) (N := 19) hx hb hts iq_X10_feedFour_4_X10 hown hK hP 0 rfl rfl 13 (by decide) (hts (Cond.fieldLink RX10 105 "CodePress" "tapeSize" "I") (List.mem_of_getElem? (i := 1) rfl)) (fun _ h9 => h9) rfl dX10_feedFour_8 ?_
  refine lv_sipush (v := 3000) hx hb dX10_feedFour_11 (by decide) ?_
  refine lv_icmp_ge (tgt := 40) hx hb dX10_feedFour_14 (by decide) (fun c_ => absurd c_ (by decide)) (fun _ => ?_)
  refine lv_aload_n hx hb dX10_feedFour_17 rfl (lv_at hl 1 rfl) ?_
  refine va_get (D := (dC, dI)) (ci := 10) (v := .ref (fa0 0)) (C := RX10) (T := TX10) (N := 19) hx hb hts iq_X10_feedFour_4_X10 hown hK hP 0 rfl rfl 0 (by decide) (hts (Cond.fieldLink RX10 9 "CodePress" "tape" "[B") (List.mem_of_getElem? (i := 2) rfl)) (fun _ h9 => h9) rfl dX10_feedFour_18 ?_
  refine lv_aload_n hx hb dX10_feedFour_21 rfl (lv_at hl 1 rfl) ?_
  refine va_get (D := (dC, dI)) (ci := 10) (v := .int 17) (C := RX10) (T := TX10) (N := 19) hx hb hts iq_X10_feedFour_4_X10 hown hK hP 0 rfl rfl 13 (by decide) (hts (Cond.fieldLink RX10 105 "CodePress" "tapeSize" "I") (List.mem_of_getElem? (i := 1) rfl)) (fun _ h9 => h9) rfl dX10_feedFour_22 ?_
  refine lv_iload_n hx hb dX10_feedFour_25 rfl (lv_at hl 2 rfl) ?_
  refine lv_iload_n hx hb dX10_feedFour_26 rfl (lv_at hl 0 rfl) ?_
  refine lv_ishr hx hb dX10_feedFour_27 ?_
  refine lv_i2b (v := (x0 >>> (16 &&& 31)).toInt8.toInt32) hx hb dX10_feedFour_28 rfl ?_
  refine va_bast hx hb hK hP hD hS 1 0 rfl rfl (pq_in (by decide)) dX10_feedFour_29 (fun H locs hP hD hS => ?_)
  have hR9 : pq_R (dC, dI) vwCl A [(h0, .inr (10, [.ref (fa0 0), .ref (fa0 1), .ref (fa0 2), .ref (fa0 20), .ref (fa0 21), .ref (fa0 16), .ref (fa0 17), .ref (fa0 22), .ref (fa0 23), .ref (fa0 18), .ref (fa0 24), .ref (fa0 25), .ref (fa0 19), .int 17, .int 0, .int (-1), .int 0, .int 0, .int 0])), ((fa0 0), .inl (cB, 3000, .inl (upd (upd f0 16 (vp_nar .byte ((x0 >>> (24 &&& 31)).toInt8.toInt32))) 17 (vp_nar .byte ((x0 >>> (16 &&& 31)).toInt8.toInt32)))))] H := ⟨hP, hD⟩
  have hP := hR9.1
  have hD := hR9.2
  refine lv_aload_n hx hb dX10_feedFour_30 rfl (lv_at hl 1 rfl) ?_
  refine lv_dup hx hb dX10_feedFour_31 rfl ?_
  refine va_get (D := (dC, dI)) (ci := 10) (v := .int 17) (C := RX10) (T := TX10) (N := 19) hx hb hts iq_X10_feedFour_4_X10 hown hK hP 0 rfl rfl 13 (by decide) (hts (Cond.fieldLink RX10 105 "CodePress" "tapeSize" "I") (List.mem_of_getElem? (i := 1) rfl)) (fun _ h9 => h9) rfl dX10_feedFour_32 ?_
  refine lv_iconst (v := 1) hx hb dX10_feedFour_35 (by decide) ?_
  refine lv_iadd hx hb dX10_feedFour_36 ?_
  refine lv_topi (fun x2 ex2 => ?_)
  obtain rfl : x2 = 18 := ex2.trans (by decide)
  refine va_put (D := (dC, dI)) (ci := 10) (v := .int 18) (ty := .int) (C := RX10) (T := TX10) (N := 19) hx hb hts iq_X10_feedFour_4_X10 tyX10 tyX10_ok nmX10 hown hK hP hD hS 0 rfl rfl 13 (by decide) (hts (Cond.fieldLink RX10 105 "CodePress" "tapeSize" "I") (List.mem_of_getElem? (i := 1) rfl)) (fun _ h9 => h9) rfl (by decide +kernel) rfl rfl (Nat.le_of_ble_eq_true rfl) dX10_feedFour_37 (fun H locs hP hD hS => ?_)
  have hR9 : pq_R (dC, dI) vwCl A [(h0, .inr (10, [.ref (fa0 0), .ref (fa0 1), .ref (fa0 2), .ref (fa0 20), .ref (fa0 21), .ref (fa0 16), .ref (fa0 17), .ref (fa0 22), .ref (fa0 23), .ref (fa0 18), .ref (fa0 24), .ref (fa0 25), .ref (fa0 19), .int 18, .int 0, .int (-1), .int 0, .int 0, .int 0])), ((fa0 0), .inl (cB, 3000, .inl (upd (upd f0 16 (vp_nar .byte ((x0 >>> (24 &&& 31)).toInt8.toInt32))) 17 (vp_nar .byte ((x0 >>> (16 &&& 31)).toInt8.toInt32)))))] H := ⟨hP, hD⟩
  have hP := hR9.1
  have hD := hR9.2
  refine lv_iinc (v := 8) (lv' := [(2, .int 8), (0, .ref h0), (1, .int x0)]) hx hb dX10_feedFour_40 hl (k := 0) rfl (by decide) (by decide) rfl (fun ls hl => ?_)
  refine lv_goto (tgt := 3) hx hb dX10_feedFour_43 (by decide) ?_
  refine lv_iload_n hx hb dX10_feedFour_3 rfl (lv_at hl 0 rfl) ?_
  refine lv_if_lt (tgt := 46) hx hb dX10_feedFour_4 (by decide) (fun c_ => absurd c_ (by decide)) (fun _ => ?_)
  refine lv_aload_n hx hb dX10_feedFour_7 rfl (lv_at hl 1 rfl) ?_
  refine va_get (D := (dC, dI)) (ci := 10) (v := .int 18) (C := RX10) (T := TX10) (N := 19) hx hb hts iq_X10_feedFour_4_X10 hown hK hP 0 rfl rfl 13 (by decide) (hts (Cond.fieldLink RX10 105 "CodePress" "tapeSize" "I") (List.mem_of_getElem? (i := 1) rfl)) (fun _ h9 => h9) rfl dX10_feedFour_8 ?_
  refine lv_sipush (v := 3000) hx hb dX10_feedFour_11 (by decide) ?_
  refine lv_icmp_ge (tgt := 40) hx hb dX10_feedFour_14 (by decide) (fun c_ => absurd c_ (by decide)) (fun _ => ?_)
  refine lv_aload_n hx hb dX10_feedFour_17 rfl (lv_at hl 1 rfl) ?_
  refine va_get (D := (dC, dI)) (ci := 10) (v := .ref (fa0 0)) (C := RX10) (T := TX10) (N := 19) hx hb hts iq_X10_feedFour_4_X10 hown hK hP 0 rfl rfl 0 (by decide) (hts (Cond.fieldLink RX10 9 "CodePress" "tape" "[B") (List.mem_of_getElem? (i := 2) rfl)) (fun _ h9 => h9) rfl dX10_feedFour_18 ?_
  refine lv_aload_n hx hb dX10_feedFour_21 rfl (lv_at hl 1 rfl) ?_
  refine va_get (D := (dC, dI)) (ci := 10) (v := .int 18) (C := RX10) (T := TX10) (N := 19) hx hb hts iq_X10_feedFour_4_X10 hown hK hP 0 rfl rfl 13 (by decide) (hts (Cond.fieldLink RX10 105 "CodePress" "tapeSize" "I") (List.mem_of_getElem? (i := 1) rfl)) (fun _ h9 => h9) rfl dX10_feedFour_22 ?_
  refine lv_iload_n hx hb dX10_feedFour_25 rfl (lv_at hl 2 rfl) ?_
  refine lv_iload_n hx hb dX10_feedFour_26 rfl (lv_at hl 0 rfl) ?_
  refine lv_ishr hx hb dX10_feedFour_27 ?_
  refine lv_i2b (v := (x0 >>> (8 &&& 31)).toInt8.toInt32) hx hb dX10_feedFour_28 rfl ?_
  refine va_bast hx hb hK hP hD hS 1 0 rfl rfl (pq_in (by decide)) dX10_feedFour_29 (fun H locs hP hD hS => ?_)
  have hR9 : pq_R (dC, dI) vwCl A [(h0, .inr (10, [.ref (fa0 0), .ref (fa0 1), .ref (fa0 2), .ref (fa0 20), .ref (fa0 21), .ref (fa0 16), .ref (fa0 17), .ref (fa0 22), .ref (fa0 23), .ref (fa0 18), .ref (fa0 24), .ref (fa0 25), .ref (fa0 19), .int 18, .int 0, .int (-1), .int 0, .int 0, .int 0])), ((fa0 0), .inl (cB, 3000, .inl (upd (upd (upd f0 16 (vp_nar .byte ((x0 >>> (24 &&& 31)).toInt8.toInt32))) 17 (vp_nar .byte ((x0 >>> (16 &&& 31)).toInt8.toInt32))) 18 (vp_nar .byte ((x0 >>> (8 &&& 31)).toInt8.toInt32)))))] H := ⟨hP, hD⟩
  have hP := hR9.1
  have hD := hR9.2
  refine lv_aload_n hx hb dX10_feedFour_30 rfl (lv_at hl 1 rfl) ?_
  refine lv_dup hx hb dX10_feedFour_31 rfl ?_
  refine va_get (D := (dC, dI)) (ci := 10) (v := .int 18) (C := RX10) (T := TX10) (N := 19) hx hb hts iq_X10_feedFour_4_X10 hown hK hP 0 rfl rfl 13 (by decide) (hts (Cond.fieldLink RX10 105 "CodePress" "tapeSize" "I") (List.mem_of_getElem? (i := 1) rfl)) (fun _ h9 => h9) rfl dX10_feedFour_32 ?_
  refine lv_iconst (v := 1) hx hb dX10_feedFour_35 (by decide) ?_
  refine lv_iadd hx hb dX10_feedFour_36 ?_
  refine lv_topi (fun x3 ex3 => ?_)
  obtain rfl : x3 = 19 := ex3.trans (by decide)
  refine va_put (D := (dC, dI)) (ci := 10) (v := .int 19) (ty := .int) (C := RX10) (T := TX10) (N := 19) hx hb hts iq_X10_feedFour_4_X10 tyX10 tyX10_ok nmX10 hown hK hP hD hS 0 rfl rfl 13 (by decide) (hts (Cond.fieldLink RX10 105 "CodePress" "tapeSize" "I") (List.mem_of_getElem? (i := 1) rfl)) (fun _ h9 => h9) rfl (by decide +kernel) rfl rfl (Nat.le_of_ble_eq_true rfl) dX10_feedFour_37 (fun H locs hP hD hS => ?_)
  have hR9 : pq_R (dC, dI) vwCl A [(h0, .inr (10, [.ref (fa0 0), .ref (fa0 1), .ref (fa0 2), .ref (fa0 20), .ref (fa0 21), .ref (fa0 16), .ref (fa0 17), .ref (fa0 22), .ref (fa0 23), .ref (fa0 18), .ref (fa0 24), .ref (fa0 25), .ref (fa0 19), .int 19, .int 0, .int (-1), .int 0, .int 0, .int 0])), ((fa0 0), .inl (cB, 3000, .inl (upd (upd (upd f0 16 (vp_nar .byte ((x0 >>> (24 &&& 31)).toInt8.toInt32))) 17 (vp_nar .byte ((x0 >>> (16 &&& 31)).toInt8.toInt32))) 18 (vp_nar .byte ((x0 >>> (8 &&& 31)).toInt8.toInt32)))))] H := ⟨hP, hD⟩
  have hP := hR9.1
  have hD := hR9.2
  refine lv_iinc (v := 0) (lv' := [(2, .int 0), (0, .ref h0), (1, .int x0)]) hx hb dX10_feedFour_40 hl (k := 0) rfl (by decide) (by decide) rfl (fun ls hl => ?_)
  refine lv_goto (tgt := 3) hx hb dX10_feedFour_43 (by decide) ?_
  refine lv_iload_n hx hb dX10_feedFour_3 rfl (lv_at hl 0 rfl) ?_
  refine lv_if_lt (tgt := 46) hx hb dX10_feedFour_4 (by decide) (fun c_ => absurd c_ (by decide)) (fun _ => ?_)
  refine lv_aload_n hx hb dX10_feedFour_7 rfl (lv_at hl 1 rfl) ?_
  refine va_get (D := (dC, dI)) (ci := 10) (v := .int 19) (C := RX10) (T := TX10) (N := 19) hx hb hts iq_X10_feedFour_4_X10 hown hK hP 0 rfl rfl 13 (by decide) (hts (Cond.fieldLink RX10 105 "CodePress" "tapeSize" "I") (List.mem_of_getElem? (i := 1) rfl)) (fun _ h9 => h9) rfl dX10_feedFour_8 ?_
  refine lv_sipush (v := 3000) hx hb dX10_feedFour_11 (by decide) ?_
  refine lv_icmp_ge (tgt := 40) hx hb dX10_feedFour_14 (by decide) (fun c_ => absurd c_ (by decide)) (fun _ => ?_)
  refine lv_aload_n hx hb dX10_feedFour_17 rfl (lv_at hl 1 rfl) ?_
  refine va_get (D := (dC, dI)) (ci := 10) (v := .ref (fa0 0)) (C := RX10) (T := TX10) (N := 19) hx hb hts iq_X10_feedFour_4_X10 hown hK hP 0 rfl rfl 0 (by decide) (hts (Cond.fieldLink RX10 9 "CodePress" "tape" "[B") (List.mem_of_getElem? (i := 2) rfl)) (fun _ h9 => h9) rfl dX10_feedFour_18 ?_
  refine lv_aload_n hx hb dX10_feedFour_21 rfl (lv_at hl 1 rfl) ?_
  refine va_get (D := (dC, dI)) (ci := 10) (v := .int 19) (C := RX10) (T := TX10) (N := 19) hx hb hts iq_X10_feedFour_4_X10 hown hK hP 0 rfl rfl 13 (by decide) (hts (Cond.fieldLink RX10 105 "CodePress" "tapeSize" "I") (List.mem_of_getElem? (i := 1) rfl)) (fun _ h9 => h9) rfl dX10_feedFour_22 ?_
  refine lv_iload_n hx hb dX10_feedFour_25 rfl (lv_at hl 2 rfl) ?_
  refine lv_iload_n hx hb dX10_feedFour_26 rfl (lv_at hl 0 rfl) ?_
  refine lv_ishr hx hb dX10_feedFour_27 ?_
  refine lv_i2b (v := (x0 >>> (0 &&& 31)).toInt8.toInt32) hx hb dX10_feedFour_28 rfl ?_
  refine va_bast hx hb hK hP hD hS 1 0 rfl rfl (pq_in (by decide)) dX10_feedFour_29 (fun H locs hP hD hS => ?_)
  have hR9 : pq_R (dC, dI) vwCl A [(h0, .inr (10, [.ref (fa0 0), .ref (fa0 1), .ref (fa0 2), .ref (fa0 20), .ref (fa0 21), .ref (fa0 16), .ref (fa0 17), .ref (fa0 22), .ref (fa0 23), .ref (fa0 18), .ref (fa0 24), .ref (fa0 25), .ref (fa0 19), .int 19, .int 0, .int (-1), .int 0, .int 0, .int 0])), ((fa0 0), .inl (cB, 3000, .inl (upd (upd (upd (upd f0 16 (vp_nar .byte ((x0 >>> (24 &&& 31)).toInt8.toInt32))) 17 (vp_nar .byte ((x0 >>> (16 &&& 31)).toInt8.toInt32))) 18 (vp_nar .byte ((x0 >>> (8 &&& 31)).toInt8.toInt32))) 19 (vp_nar .byte ((x0 >>> (0 &&& 31)).toInt8.toInt32)))))] H := ⟨hP, hD⟩
  have hP := hR9.1
  have hD := hR9.2
  refine lv_aload_n hx hb dX10_feedFour_30 rfl (lv_at hl 1 rfl) ?_
  refine lv_dup hx hb dX10_feedFour_31 rfl ?_
  refine va_get (D := (dC, dI)) (ci := 10) (v := .int 19) (C := RX10) (T := TX10) (N := 19) hx hb hts iq_X10_feedFour_4_X10 hown hK hP 0 rfl rfl 13 (by decide) (hts (Cond.fieldLink RX10 105 "CodePress" "tapeSize" "I") (List.mem_of_getElem? (i := 1) rfl)) (fun _ h9 => h9) rfl dX10_feedFour_32 ?_
  refine lv_iconst (v := 1) hx hb dX10_feedFour_35 (by decide) ?_
  refine lv_iadd hx hb dX10_feedFour_36 ?_
  refine lv_topi (fun x4 ex4 => ?_)
  obtain rfl : x4 = 20 := ex4.trans (by decide)
  refine va_put (D := (dC, dI)) (ci := 10) (v := .int 20) (ty := .int) (C := RX10) (T := TX10) (N := 19) hx hb hts iq_X10_feedFour_4_X10 tyX10 tyX10_ok nmX10 hown hK hP hD hS 0 rfl rfl 13 (by decide) (hts (Cond.fieldLink RX10 105 "CodePress" "tapeSize" "I") (List.mem_of_getElem? (i := 1) rfl)) (fun _ h9 => h9) rfl (by decide +kernel) rfl rfl (Nat.le_of_ble_eq_true rfl) dX10_feedFour_37 (fun H locs hP hD hS => ?_)
  have hR9 : pq_R (dC, dI) vwCl A [(h0, .inr (10, [.ref (fa0 0), .ref (fa0 1), .ref (fa0 2), .ref (fa0 20), .ref (fa0 21), .ref (fa0 16), .ref (fa0 17), .ref (fa0 22), .ref (fa0 23), .ref (fa0 18), .ref (fa0 24), .ref (fa0 25), .ref (fa0 19), .int 20, .int 0, .int (-1), .int 0, .int 0, .int 0])), ((fa0 0), .inl (cB, 3000, .inl (upd (upd (upd (upd f0 16 (vp_nar .byte ((x0 >>> (24 &&& 31)).toInt8.toInt32))) 17 (vp_nar .byte ((x0 >>> (16 &&& 31)).toInt8.toInt32))) 18 (vp_nar .byte ((x0 >>> (8 &&& 31)).toInt8.toInt32))) 19 (vp_nar .byte ((x0 >>> (0 &&& 31)).toInt8.toInt32)))))] H := ⟨hP, hD⟩
  have hP := hR9.1
  have hD := hR9.2
  refine lv_iinc (v := (-8)) (lv' := [(2, .int (-8)), (0, .ref h0), (1, .int x0)]) hx hb dX10_feedFour_40 hl (k := 0) rfl (by decide) (by decide) rfl (fun ls hl => ?_)
  refine lv_goto (tgt := 3) hx hb dX10_feedFour_43 (by decide) ?_
  refine lv_iload_n hx hb dX10_feedFour_3 rfl (lv_at hl 0 rfl) ?_
  refine lv_if_lt (tgt := 46) hx hb dX10_feedFour_4 (by decide) (fun _ => ?_) (fun c_ => absurd (by decide) c_)
  have hP9 := pq_P.pick (wc := [(h0, .inr (10, [.ref (fa0 0), .ref (fa0 1), .ref (fa0 2), .ref (fa0 20), .ref (fa0 21), .ref (fa0 16), .ref (fa0 17), .ref (fa0 22), .ref (fa0 23), .ref (fa0 18), .ref (fa0 24), .ref (fa0 25), .ref (fa0 19), .int 20, .int 0, .int (-1), .int 0, .int 0, .int 0])), ((fa0 0), .inl (cB, 3000, .inl (upd (upd (upd (upd f0 16 (vp_nar .byte ((x0 >>> (24 &&& 31)).toInt8.toInt32))) 17 (vp_nar .byte ((x0 >>> (16 &&& 31)).toInt8.toInt32))) 18 (vp_nar .byte ((x0 >>> (8 &&& 31)).toInt8.toInt32))) 19 (vp_nar .byte ((x0 >>> (0 &&& 31)).toInt8.toInt32)))))]) hP [0, 1] rfl
  have hD9 := hD.sub (ws' := [(h0, .inr (10, [.ref (fa0 0), .ref (fa0 1), .ref (fa0 2), .ref (fa0 20), .ref (fa0 21), .ref (fa0 16), .ref (fa0 17), .ref (fa0 22), .ref (fa0 23), .ref (fa0 18), .ref (fa0 24), .ref (fa0 25), .ref (fa0 19), .int 20, .int 0, .int (-1), .int 0, .int 0, .int 0])), ((fa0 0), .inl (cB, 3000, .inl (upd (upd (upd (upd f0 16 (vp_nar .byte ((x0 >>> (24 &&& 31)).toInt8.toInt32))) 17 (vp_nar .byte ((x0 >>> (16 &&& 31)).toInt8.toInt32))) 18 (vp_nar .byte ((x0 >>> (8 &&& 31)).toInt8.toInt32))) 19 (vp_nar .byte ((x0 >>> (0 &&& 31)).toInt8.toInt32)))))]) [0, 1] (by decide) rfl
  refine W.widen (k := 0) (n := 0) (by decide +kernel) (by decide +kernel) ?_
  exact W.vret hx hb hr (fun t ht hW => ⟨⟨sq_u [] [], rfl, trivial, pq_B.of ht hP9 hD9⟩, hS.F ht⟩) hS.2.2 dX10_feedFour_46
def wq_X10_feed_r1 : List Cond := [Cond.fieldLink RX10 105 "CodePress" "tapeSize" "I", Cond.code yX10_feedFour cX10_feedFour 3 none, Cond.fieldLink RX10 9 "CodePress" "tape" "[B", Cond.methodLink RX10 108 yX10_feedFour, Cond.instanceMethod yX10_feedFour, Cond.selects RX10 yX10_feedFour yX10_feedFour, Cond.initialized RX10]
def wq_X10_feed : List Cond := Cond.code yX10_feed cX10_feed 6 (some .int) :: (wq_X10_feed_r1 ++ wsX100)
theorem iq_X10_feed_X10 : ∀ w ∈ wsX100, w ∈ wq_X10_feed := fun _ h => List.mem_cons_of_mem _ (List.mem_append_right _ h)
set_option maxRecDepth 20000 in
theorem gq_X10_feed_X10_feedFour_108_0 : GoodIn wq_X10_feed (Cond.code yX10_feedFour cX10_feedFour 3 none :: wq_X10_feedFour_r1) := goodIn_r _ [2, 1, 3] (by decide +kernel) (by decide +kernel)
set_option maxRecDepth 20000 in
theorem gq_X10_feed_X10_feedFour_108 : GoodIn wq_X10_feed (wsV RX10 108 RX10 yX10_feedFour wq_X10_feedFour) := goodIn_app (goodIn_r _ [4, 5, 6, 7] (by decide +kernel) (by decide +kernel)) (goodIn_ca gq_X10_feed_X10_feedFour_108_0 (goodIn_sub iq_X10_feed_X10 guX10))
set_option maxRecDepth 20000 in
theorem gq_X10_feed_X10_feedFour_1_108_0 : GoodIn wq_X10_feed (Cond.code yX10_feedFour cX10_feedFour 3 none :: wq_X10_feedFour_1_r1) := goodIn_r _ [2, 1, 3] (by decide +kernel) (by decide +kernel)
set_option maxRecDepth 20000 in
theorem gq_X10_feed_X10_feedFour_1_108 : GoodIn wq_X10_feed (wsV RX10 108 RX10 yX10_feedFour wq_X10_feedFour_1) := goodIn_app (goodIn_r _ [4, 5, 6, 7] (by decide +kernel) (by decide +kernel)) (goodIn_ca gq_X10_feed_X10_feedFour_1_108_0 (goodIn_sub iq_X10_feed_X10 guX10))
set_option maxRecDepth 20000 in
theorem gq_X10_feed_X10_feedFour_2_108_0 : GoodIn wq_X10_feed (Cond.code yX10_feedFour cX10_feedFour 3 none :: wq_X10_feedFour_2_r1) := goodIn_r _ [2, 1, 3] (by decide +kernel) (by decide +kernel)
set_option maxRecDepth 20000 in
theorem gq_X10_feed_X10_feedFour_2_108 : GoodIn wq_X10_feed (wsV RX10 108 RX10 yX10_feedFour wq_X10_feedFour_2) := goodIn_app (goodIn_r _ [4, 5, 6, 7] (by decide +kernel) (by decide +kernel)) (goodIn_ca gq_X10_feed_X10_feedFour_2_108_0 (goodIn_sub iq_X10_feed_X10 guX10))
set_option maxRecDepth 20000 in
theorem gq_X10_feed_X10_feedFour_3_108_0 : GoodIn wq_X10_feed (Cond.code yX10_feedFour cX10_feedFour 3 none :: wq_X10_feedFour_3_r1) := goodIn_r _ [2, 1, 3] (by decide +kernel) (by decide +kernel)
set_option maxRecDepth 20000 in
theorem gq_X10_feed_X10_feedFour_3_108 : GoodIn wq_X10_feed (wsV RX10 108 RX10 yX10_feedFour wq_X10_feedFour_3) := goodIn_app (goodIn_r _ [4, 5, 6, 7] (by decide +kernel) (by decide +kernel)) (goodIn_ca gq_X10_feed_X10_feedFour_3_108_0 (goodIn_sub iq_X10_feed_X10 guX10))
set_option maxRecDepth 20000 in
theorem gq_X10_feed_X10_feedFour_4_108_0 : GoodIn wq_X10_feed (Cond.code yX10_feedFour cX10_feedFour 3 none :: wq_X10_feedFour_4_r1) := goodIn_r _ [2, 1, 3] (by decide +kernel) (by decide +kernel)
set_option maxRecDepth 20000 in
theorem gq_X10_feed_X10_feedFour_4_108 : GoodIn wq_X10_feed (wsV RX10 108 RX10 yX10_feedFour wq_X10_feedFour_4) := goodIn_app (goodIn_r _ [4, 5, 6, 7] (by decide +kernel) (by decide +kernel)) (goodIn_ca gq_X10_feed_X10_feedFour_4_108_0 (goodIn_sub iq_X10_feed_X10 guX10))
set_option maxHeartbeats 4000000 in
set_option maxRecDepth 100000 in
theorem cq_X10_feed (l : Launch) (dC : Nat → ClassId) (dI : Nat → Nat → Nat) (cB cI cJ cZ : ClassId) (h0 : Nat) (fa0 : Nat → Nat) (x0 : Int32) (x1 : Int32) (x2 : Int32) (x3 : Int32) (x4 : Int32) (sz : Nat) : Met l yX10_feed wq_X10_feed ({ frames := 1, cells := 0, slots := 0, locals := 22 }) (va_Pc [.ref h0, .int x0, .int x1, .int x2, .int x3, .int x4] (pq_W (dC, dI) vwCl (tyQ cB cI cJ cZ) [(h0, .inr (10, [.ref (fa0 0), .ref (fa0 1), .ref (fa0 2), .ref (fa0 20), .ref (fa0 21), .ref (fa0 16), .ref (fa0 17), .ref (fa0 22), .ref (fa0 23), .ref (fa0 18), .ref (fa0 24), .ref (fa0 25), .ref (fa0 19), .int 0, .int 0, .int (-1), .int 0, .int 0, .int 0])), ((fa0 0), .inl (cB, 3000, .inl (fun _ => 0)))] sz)) (va_Qi (fun (r : Int32) (_ : SQ) => r = 20) (fun u => pq_B (dC, dI) vwCl [(h0, .inr (10, [.ref (fa0 0), .ref (fa0 1), .ref (fa0 2), .ref (fa0 20), .ref (fa0 21), .ref (fa0 16), .ref (fa0 17), .ref (fa0 22), .ref (fa0 23), .ref (fa0 18), .ref (fa0 24), .ref (fa0 25), .ref (fa0 19), .int 20, .int 0, .int (-1), .int 0, .int 0, .int 0])), ((fa0 0), .inl (cB, 3000, .inl (upd (upd (upd (upd (upd (upd (upd (upd (upd (upd (upd (upd (upd (upd (upd (upd (upd (upd (upd (upd (fun _ => 0) 0 (vp_nar .byte ((x0 >>> (24 &&& 31)).toInt8.toInt32))) 1 (vp_nar .byte ((x0 >>> (16 &&& 31)).toInt8.toInt32))) 2 (vp_nar .byte ((x0 >>> (8 &&& 31)).toInt8.toInt32))) 3 (vp_nar .byte ((x0 >>> (0 &&& 31)).toInt8.toInt32))) 4 (vp_nar .byte ((x1 >>> (24 &&& 31)).toInt8.toInt32))) 5 (vp_nar .byte ((x1 >>> (16 &&& 31)).toInt8.toInt32))) 6 (vp_nar .byte ((x1 >>> (8 &&& 31)).toInt8.toInt32))) 7 (vp_nar .byte ((x1 >>> (0 &&& 31)).toInt8.toInt32))) 8 (vp_nar .byte ((x2 >>> (24 &&& 31)).toInt8.toInt32))) 9 (vp_nar .byte ((x2 >>> (16 &&& 31)).toInt8.toInt32))) 10 (vp_nar .byte ((x2 >>> (8 &&& 31)).toInt8.toInt32))) 11 (vp_nar .byte ((x2 >>> (0 &&& 31)).toInt8.toInt32))) 12 (vp_nar .byte ((x3 >>> (24 &&& 31)).toInt8.toInt32))) 13 (vp_nar .byte ((x3 >>> (16 &&& 31)).toInt8.toInt32))) 14 (vp_nar .byte ((x3 >>> (8 &&& 31)).toInt8.toInt32))) 15 (vp_nar .byte ((x3 >>> (0 &&& 31)).toInt8.toInt32))) 16 (vp_nar .byte ((x4 >>> (24 &&& 31)).toInt8.toInt32))) 17 (vp_nar .byte ((x4 >>> (16 &&& 31)).toInt8.toInt32))) 18 (vp_nar .byte ((x4 >>> (8 &&& 31)).toInt8.toInt32))) 19 (vp_nar .byte ((x4 >>> (0 &&& 31)).toInt8.toInt32)))))] (va_A [(h0, .inr (10, [.ref (fa0 0), .ref (fa0 1), .ref (fa0 2), .ref (fa0 20), .ref (fa0 21), .ref (fa0 16), .ref (fa0 17), .ref (fa0 22), .ref (fa0 23), .ref (fa0 18), .ref (fa0 24), .ref (fa0 25), .ref (fa0 19), .int 0, .int 0, .int (-1), .int 0, .int 0, .int 0])), ((fa0 0), .inl (cB, 3000, .inl (fun _ => 0)))] sz)) (va_A [(h0, .inr (10, [.ref (fa0 0), .ref (fa0 1), .ref (fa0 2), .ref (fa0 20), .ref (fa0 21), .ref (fa0 16), .ref (fa0 17), .ref (fa0 22), .ref (fa0 23), .ref (fa0 18), .ref (fa0 24), .ref (fa0 25), .ref (fa0 19), .int 0, .int 0, .int (-1), .int 0, .int 0, .int 0])), ((fa0 0), .inl (cB, 3000, .inl (fun _ => 0)))] sz)) 0 0 (va_A [(h0, .inr (10, [.ref (fa0 0), .ref (fa0 1), .ref (fa0 2), .ref (fa0 20), .ref (fa0 21), .ref (fa0 16), .ref (fa0 17), .ref (fa0 22), .ref (fa0 23), .ref (fa0 18), .ref (fa0 24), .ref (fa0 25), .ref (fa0 19), .int 0, .int 0, .int (-1), .int 0, .int 0, .int 0])), ((fa0 0), .inl (cB, 3000, .inl (fun _ => 0)))] sz) := by
  refine Met.ofW (cc := cX10_feed) (maxL := 6) (ret := (some .int)) (by decide) rfl ?_
  intro p e s m args below meth c s₁ B hml hv
  obtain ⟨rfl, hsz, hP, hK, hD0⟩ := hv
  have hx := B.exec
  have hb := B.bytes
  have hr := B.returns
  have hts := atoms_spec (ws := wq_X10_feed) B.pre
  have hown : s.vm.findClass RX10 = some m.cls := findClass_of_methodNamed B.named
  have hlocks := B.notSynchronized
  subst hsz
  have hD := hD0.self (sz := s.heap.size)
  generalize hAe : va_A [(h0, .inr (10, [.ref (fa0 0), .ref (fa0 1), .ref (fa0 2), .ref (fa0 20), .ref (fa0 21), .ref (fa0 16), .ref (fa0 17), .ref (fa0 22), .ref (fa0 23), .ref (fa0 18), .ref (fa0 24), .ref (fa0 25), .ref (fa0 19), .int 0, .int 0, .int (-1), .int 0, .int 0, .int 0])), ((fa0 0), .inl (cB, 3000, .inl (fun _ => 0)))] s.heap.size = A at hD ⊢
  have hA : ∀ q : Nat, s.heap.size ≤ q → A q := fun q h => by rw [← hAe]; exact Or.inr h
  have hS : va_S A s.heap s.heap [] := va_S.rf
  have hP : va_P (dC, dI) vwCl [(h0, .inr (10, [.ref (fa0 0), .ref (fa0 1), .ref (fa0 2), .ref (fa0 20), .ref (fa0 21), .ref (fa0 16), .ref (fa0 17), .ref (fa0 22), .ref (fa0 23), .ref (fa0 18), .ref (fa0 24), .ref (fa0 25), .ref (fa0 19), .int 0, .int 0, .int (-1), .int 0, .int 0, .int 0])), ((fa0 0), .inl (cB, 3000, .inl (fun _ => 0)))] s.heap := hP
  obtain ⟨H, hH⟩ : ∃ H, H = s.heap := ⟨_, rfl⟩
  rw [← hH] at hP
  have hS : va_S A s.heap H [] := by rw [hH]; exact hS
  have hl := lv_entry ([.ref h0, .int x0, .int x1, .int x2, .int x3, .int x4]) (n := 6) (Nat.le_of_ble_eq_true rfl)
  rw [lg_entry_eq]
  generalize (lg_sl ([.ref h0, .int x0, .int x1, .int x2, .int x3, .int x4]) ++ List.replicate (6 - (lg_sl ([.ref h0, .int x0, .int x1, .int x2, .int x3, .int x4])).length) Slot.unset).toArray = ls at hl ⊢
  have hl : lv_has ls 6 [(0, .ref h0), (1, .int x0), (2, .int x1), (3, .int x2), (4, .int x3), (5, .int x4)] := hl
  refine pq_heap hH ?_
  refine lv_aload_n hx hb dX10_feed_0 rfl (lv_at hl 0 rfl) ?_
  refine va_get (D := (dC, dI)) (ci := 10) (v := .int 0) (C := RX10) (T := TX10) (N := 19) hx hb hts iq_X10_feed_X10 hown hK hP 0 rfl rfl 13 (by decide) (hts (Cond.fieldLink RX10 105 "CodePress" "tapeSize" "I") (List.mem_of_getElem? (i := 1) rfl)) (fun _ h9 => h9) rfl dX10_feed_1 ?_
  refine lv_bipush (v := 20) hx hb dX10_feed_4 (by decide) ?_
  refine lv_iadd hx hb dX10_feed_6 ?_
  refine lv_topi (fun x1 ex1 => ?_)
  obtain rfl : x1 = 20 := ex1.trans (by decide)
  refine lv_sipush (v := 3000) hx hb dX10_feed_7 (by decide) ?_
  refine lv_icmp_le (tgt := 15) hx hb dX10_feed_10 (by decide) (fun _ => ?_) (fun c_ => absurd (by decide) c_)
  refine lv_aload_n hx hb dX10_feed_15 rfl (lv_at hl 0 rfl) ?_
  refine lv_iload_n hx hb dX10_feed_16 rfl (lv_at hl 1 rfl) ?_
  refine pq_cv (wr := []) (W1 := (fun u => [(h0, .inr (10, [.ref (fa0 0), .ref (fa0 1), .ref (fa0 2), .ref (fa0 20), .ref (fa0 21), .ref (fa0 16), .ref (fa0 17), .ref (fa0 22), .ref (fa0 23), .ref (fa0 18), .ref (fa0 24), .ref (fa0 25), .ref (fa0 19), .int 4, .int 0, .int (-1), .int 0, .int 0, .int 0])), ((fa0 0), .inl (cB, 3000, .inl (upd (upd (upd (upd (fun _ => 0) 0 (vp_nar .byte ((x0 >>> (24 &&& 31)).toInt8.toInt32))) 1 (vp_nar .byte ((x0 >>> (16 &&& 31)).toInt8.toInt32))) 2 (vp_nar .byte ((x0 >>> (8 &&& 31)).toInt8.toInt32))) 3 (vp_nar .byte ((x0 >>> (0 &&& 31)).toInt8.toInt32)))))])) (va_runV (As := [.int x0]) (rest := []) ⟨hx, hb, hml, hown, hts⟩ (cq_X10_feedFour l dC dI cB cI cJ cZ h0 fa0 x0 H.size) (cwV 1 hts gq_X10_feed_X10_feedFour_108 rfl rfl rfl (by decide +kernel) ⟨(by decide +kernel), (by decide +kernel)⟩) ⟨pq_blind, va_recv hK hP (ci := 10) (q0 := 0) rfl rfl, pq_pre hK hP hD [0, 1] rfl rfl⟩ rfl rfl hl.1 rfl (lv_room (Nat.le_of_ble_eq_true rfl)) dX10_feed_17 ⟨(by decide +kernel), (by decide +kernel)⟩) hP hD hS hA [0, 1] [] rfl rfl rfl (by decide) (fun u2 H locs hw hP hD hS => ?_)
  have hR9 : pq_R (dC, dI) vwCl A [(h0, .inr (10, [.ref (fa0 0), .ref (fa0 1), .ref (fa0 2), .ref (fa0 20), .ref (fa0 21), .ref (fa0 16), .ref (fa0 17), .ref (fa0 22), .ref (fa0 23), .ref (fa0 18), .ref (fa0 24), .ref (fa0 25), .ref (fa0 19), .int 4, .int 0, .int (-1), .int 0, .int 0, .int 0])), ((fa0 0), .inl (cB, 3000, .inl (upd (upd (upd (upd (fun _ => 0) 0 (vp_nar .byte ((x0 >>> (24 &&& 31)).toInt8.toInt32))) 1 (vp_nar .byte ((x0 >>> (16 &&& 31)).toInt8.toInt32))) 2 (vp_nar .byte ((x0 >>> (8 &&& 31)).toInt8.toInt32))) 3 (vp_nar .byte ((x0 >>> (0 &&& 31)).toInt8.toInt32)))))] H := ⟨hP, hD⟩
  have hP := hR9.1
  have hD := hR9.2
  refine W.widen (k := 0) (n := 0) (by decide +kernel) (by decide +kernel) ?_
  refine lv_aload_n hx hb dX10_feed_20 rfl (lv_at hl 0 rfl) ?_
  refine lv_iload_n hx hb dX10_feed_21 rfl (lv_at hl 2 rfl) ?_
  refine pq_cv (wr := []) (W1 := (fun u => [(h0, .inr (10, [.ref (fa0 0), .ref (fa0 1), .ref (fa0 2), .ref (fa0 20), .ref (fa0 21), .ref (fa0 16), .ref (fa0 17), .ref (fa0 22), .ref (fa0 23), .ref (fa0 18), .ref (fa0 24), .ref (fa0 25), .ref (fa0 19), .int 8, .int 0, .int (-1), .int 0, .int 0, .int 0])), ((fa0 0), .inl (cB, 3000, .inl (upd (upd (upd (upd (upd (upd (upd (upd (fun _ => 0) 0 (vp_nar .byte ((x0 >>> (24 &&& 31)).toInt8.toInt32))) 1 (vp_nar .byte ((x0 >>> (16 &&& 31)).toInt8.toInt32))) 2 (vp_nar .byte ((x0 >>> (8 &&& 31)).toInt8.toInt32))) 3 (vp_nar .byte ((x0 >>> (0 &&& 31)).toInt8.toInt32))) 4 (vp_nar .byte ((x1 >>> (24 &&& 31)).toInt8.toInt32))) 5 (vp_nar .byte ((x1 >>> (16 &&& 31)).toInt8.toInt32))) 6 (vp_nar .byte ((x1 >>> (8 &&& 31)).toInt8.toInt32))) 7 (vp_nar .byte ((x1 >>> (0 &&& 31)).toInt8.toInt32)))))])) (va_runV (As := [.int x1]) (rest := []) ⟨hx, hb, hml, hown, hts⟩ (cq_X10_feedFour_1 l dC dI cB cI cJ cZ h0 fa0 x1 (upd (upd (upd (upd (fun _ => 0) 0 (vp_nar .byte ((x0 >>> (24 &&& 31)).toInt8.toInt32))) 1 (vp_nar .byte ((x0 >>> (16 &&& 31)).toInt8.toInt32))) 2 (vp_nar .byte ((x0 >>> (8 &&& 31)).toInt8.toInt32))) 3 (vp_nar .byte ((x0 >>> (0 &&& 31)).toInt8.toInt32))) H.size) (cwV 1 hts gq_X10_feed_X10_feedFour_1_108 rfl rfl rfl (by decide +kernel) ⟨(by decide +kernel), (by decide +kernel)⟩) ⟨pq_blind, va_recv hK hP (ci := 10) (q0 := 0) rfl rfl, pq_pre hK hP hD [0, 1] rfl rfl⟩ rfl rfl hl.1 rfl (lv_room (Nat.le_of_ble_eq_true rfl)) dX10_feed_22 ⟨(by decide +kernel), (by decide +kernel)⟩) hP hD hS hA [0, 1] [] rfl rfl rfl (by decide) (fun u3 H locs hw hP hD hS => ?_)
  have hR9 : pq_R (dC, dI) vwCl A [(h0, .inr (10, [.ref (fa0 0), .ref (fa0 1), .ref (fa0 2), .ref (fa0 20), .ref (fa0 21), .ref (fa0 16), .ref (fa0 17), .ref (fa0 22), .ref (fa0 23), .ref (fa0 18), .ref (fa0 24), .ref (fa0 25), .ref (fa0 19), .int 8, .int 0, .int (-1), .int 0, .int 0, .int 0])), ((fa0 0), .inl (cB, 3000, .inl (upd (upd (upd (upd (upd (upd (upd (upd (fun _ => 0) 0 (vp_nar .byte ((x0 >>> (24 &&& 31)).toInt8.toInt32))) 1 (vp_nar .byte ((x0 >>> (16 &&& 31)).toInt8.toInt32))) 2 (vp_nar .byte ((x0 >>> (8 &&& 31)).toInt8.toInt32))) 3 (vp_nar .byte ((x0 >>> (0 &&& 31)).toInt8.toInt32))) 4 (vp_nar .byte ((x1 >>> (24 &&& 31)).toInt8.toInt32))) 5 (vp_nar .byte ((x1 >>> (16 &&& 31)).toInt8.toInt32))) 6 (vp_nar .byte ((x1 >>> (8 &&& 31)).toInt8.toInt32))) 7 (vp_nar .byte ((x1 >>> (0 &&& 31)).toInt8.toInt32)))))] H := ⟨hP, hD⟩
  have hP := hR9.1
  have hD := hR9.2
  refine W.widen (k := 0) (n := 0) (by decide +kernel) (by decide +kernel) ?_
  refine lv_aload_n hx hb dX10_feed_25 rfl (lv_at hl 0 rfl) ?_
  refine lv_iload_n hx hb dX10_feed_26 rfl (lv_at hl 3 rfl) ?_
  refine pq_cv (wr := []) (W1 := (fun u => [(h0, .inr (10, [.ref (fa0 0), .ref (fa0 1), .ref (fa0 2), .ref (fa0 20), .ref (fa0 21), .ref (fa0 16), .ref (fa0 17), .ref (fa0 22), .ref (fa0 23), .ref (fa0 18), .ref (fa0 24), .ref (fa0 25), .ref (fa0 19), .int 12, .int 0, .int (-1), .int 0, .int 0, .int 0])), ((fa0 0), .inl (cB, 3000, .inl (upd (upd (upd (upd (upd (upd (upd (upd (upd (upd (upd (upd (fun _ => 0) 0 (vp_nar .byte ((x0 >>> (24 &&& 31)).toInt8.toInt32))) 1 (vp_nar .byte ((x0 >>> (16 &&& 31)).toInt8.toInt32))) 2 (vp_nar .byte ((x0 >>> (8 &&& 31)).toInt8.toInt32))) 3 (vp_nar .byte ((x0 >>> (0 &&& 31)).toInt8.toInt32))) 4 (vp_nar .byte ((x1 >>> (24 &&& 31)).toInt8.toInt32))) 5 (vp_nar .byte ((x1 >>> (16 &&& 31)).toInt8.toInt32))) 6 (vp_nar .byte ((x1 >>> (8 &&& 31)).toInt8.toInt32))) 7 (vp_nar .byte ((x1 >>> (0 &&& 31)).toInt8.toInt32))) 8 (vp_nar .byte ((x2 >>> (24 &&& 31)).toInt8.toInt32))) 9 (vp_nar .byte ((x2 >>> (16 &&& 31)).toInt8.toInt32))) 10 (vp_nar .byte ((x2 >>> (8 &&& 31)).toInt8.toInt32))) 11 (vp_nar .byte ((x2 >>> (0 &&& 31)).toInt8.toInt32)))))])) (va_runV (As := [.int x2]) (rest := []) ⟨hx, hb, hml, hown, hts⟩ (cq_X10_feedFour_2 l dC dI cB cI cJ cZ h0 fa0 x2 (upd (upd (upd (upd (upd (upd (upd (upd (fun _ => 0) 0 (vp_nar .byte ((x0 >>> (24 &&& 31)).toInt8.toInt32))) 1 (vp_nar .byte ((x0 >>> (16 &&& 31)).toInt8.toInt32))) 2 (vp_nar .byte ((x0 >>> (8 &&& 31)).toInt8.toInt32))) 3 (vp_nar .byte ((x0 >>> (0 &&& 31)).toInt8.toInt32))) 4 (vp_nar .byte ((x1 >>> (24 &&& 31)).toInt8.toInt32))) 5 (vp_nar .byte ((x1 >>> (16 &&& 31)).toInt8.toInt32))) 6 (vp_nar .byte ((x1 >>> (8 &&& 31)).toInt8.toInt32))) 7 (vp_nar .byte ((x1 >>> (0 &&& 31)).toInt8.toInt32))) H.size) (cwV 1 hts gq_X10_feed_X10_feedFour_2_108 rfl rfl rfl (by decide +kernel) ⟨(by decide +kernel), (by decide +kernel)⟩) ⟨pq_blind, va_recv hK hP (ci := 10) (q0 := 0) rfl rfl, pq_pre hK hP hD [0, 1] rfl rfl⟩ rfl rfl hl.1 rfl (lv_room (Nat.le_of_ble_eq_true rfl)) dX10_feed_27 ⟨(by decide +kernel), (by decide +kernel)⟩) hP hD hS hA [0, 1] [] rfl rfl rfl (by decide) (fun u4 H locs hw hP hD hS => ?_)
  have hR9 : pq_R (dC, dI) vwCl A [(h0, .inr (10, [.ref (fa0 0), .ref (fa0 1), .ref (fa0 2), .ref (fa0 20), .ref (fa0 21), .ref (fa0 16), .ref (fa0 17), .ref (fa0 22), .ref (fa0 23), .ref (fa0 18), .ref (fa0 24), .ref (fa0 25), .ref (fa0 19), .int 12, .int 0, .int (-1), .int 0, .int 0, .int 0])), ((fa0 0), .inl (cB, 3000, .inl (upd (upd (upd (upd (upd (upd (upd (upd (upd (upd (upd (upd (fun _ => 0) 0 (vp_nar .byte ((x0 >>> (24 &&& 31)).toInt8.toInt32))) 1 (vp_nar .byte ((x0 >>> (16 &&& 31)).toInt8.toInt32))) 2 (vp_nar .byte ((x0 >>> (8 &&& 31)).toInt8.toInt32))) 3 (vp_nar .byte ((x0 >>> (0 &&& 31)).toInt8.toInt32))) 4 (vp_nar .byte ((x1 >>> (24 &&& 31)).toInt8.toInt32))) 5 (vp_nar .byte ((x1 >>> (16 &&& 31)).toInt8.toInt32))) 6 (vp_nar .byte ((x1 >>> (8 &&& 31)).toInt8.toInt32))) 7 (vp_nar .byte ((x1 >>> (0 &&& 31)).toInt8.toInt32))) 8 (vp_nar .byte ((x2 >>> (24 &&& 31)).toInt8.toInt32))) 9 (vp_nar .byte ((x2 >>> (16 &&& 31)).toInt8.toInt32))) 10 (vp_nar .byte ((x2 >>> (8 &&& 31)).toInt8.toInt32))) 11 (vp_nar .byte ((x2 >>> (0 &&& 31)).toInt8.toInt32)))))] H := ⟨hP, hD⟩
  have hP := hR9.1
  have hD := hR9.2
  refine W.widen (k := 0) (n := 0) (by decide +kernel) (by decide +kernel) ?_
  refine lv_aload_n hx hb dX10_feed_30 rfl (lv_at hl 0 rfl) ?_
  refine lv_iload hx hb dX10_feed_31 (lv_at hl 4 rfl) ?_
  refine pq_cv (wr := []) (W1 := (fun u => [(h0, .inr (10, [.ref (fa0 0), .ref (fa0 1), .ref (fa0 2), .ref (fa0 20), .ref (fa0 21), .ref (fa0 16), .ref (fa0 17), .ref (fa0 22), .ref (fa0 23), .ref (fa0 18), .ref (fa0 24), .ref (fa0 25), .ref (fa0 19), .int 16, .int 0, .int (-1), .int 0, .int 0, .int 0])), ((fa0 0), .inl (cB, 3000, .inl (upd (upd (upd (upd (upd (upd (upd (upd (upd (upd (upd (upd (upd (upd (upd (upd (fun _ => 0) 0 (vp_nar .byte ((x0 >>> (24 &&& 31)).toInt8.toInt32))) 1 (vp_nar .byte ((x0 >>> (16 &&& 31)).toInt8.toInt32))) 2 (vp_nar .byte ((x0 >>> (8 &&& 31)).toInt8.toInt32))) 3 (vp_nar .byte ((x0 >>> (0 &&& 31)).toInt8.toInt32))) 4 (vp_nar .byte ((x1 >>> (24 &&& 31)).toInt8.toInt32))) 5 (vp_nar .byte ((x1 >>> (16 &&& 31)).toInt8.toInt32))) 6 (vp_nar .byte ((x1 >>> (8 &&& 31)).toInt8.toInt32))) 7 (vp_nar .byte ((x1 >>> (0 &&& 31)).toInt8.toInt32))) 8 (vp_nar .byte ((x2 >>> (24 &&& 31)).toInt8.toInt32))) 9 (vp_nar .byte ((x2 >>> (16 &&& 31)).toInt8.toInt32))) 10 (vp_nar .byte ((x2 >>> (8 &&& 31)).toInt8.toInt32))) 11 (vp_nar .byte ((x2 >>> (0 &&& 31)).toInt8.toInt32))) 12 (vp_nar .byte ((x3 >>> (24 &&& 31)).toInt8.toInt32))) 13 (vp_nar .byte ((x3 >>> (16 &&& 31)).toInt8.toInt32))) 14 (vp_nar .byte ((x3 >>> (8 &&& 31)).toInt8.toInt32))) 15 (vp_nar .byte ((x3 >>> (0 &&& 31)).toInt8.toInt32)))))])) (va_runV (As := [.int x3]) (rest := []) ⟨hx, hb, hml, hown, hts⟩ (cq_X10_feedFour_3 l dC dI cB cI cJ cZ h0 fa0 x3 (upd (upd (upd (upd (upd (upd (upd (upd (upd (upd (upd (upd (fun _ => 0) 0 (vp_nar .byte ((x0 >>> (24 &&& 31)).toInt8.toInt32))) 1 (vp_nar .byte ((x0 >>> (16 &&& 31)).toInt8.toInt32))) 2 (vp_nar .byte ((x0 >>> (8 &&& 31)).toInt8.toInt32))) 3 (vp_nar .byte ((x0 >>> (0 &&& 31)).toInt8.toInt32))) 4 (vp_nar .byte ((x1 >>> (24 &&& 31)).toInt8.toInt32))) 5 (vp_nar .byte ((x1 >>> (16 &&& 31)).toInt8.toInt32))) 6 (vp_nar .byte ((x1 >>> (8 &&& 31)).toInt8.toInt32))) 7 (vp_nar .byte ((x1 >>> (0 &&& 31)).toInt8.toInt32))) 8 (vp_nar .byte ((x2 >>> (24 &&& 31)).toInt8.toInt32))) 9 (vp_nar .byte ((x2 >>> (16 &&& 31)).toInt8.toInt32))) 10 (vp_nar .byte ((x2 >>> (8 &&& 31)).toInt8.toInt32))) 11 (vp_nar .byte ((x2 >>> (0 &&& 31)).toInt8.toInt32))) H.size) (cwV 1 hts gq_X10_feed_X10_feedFour_3_108 rfl rfl rfl (by decide +kernel) ⟨(by decide +kernel), (by decide +kernel)⟩) ⟨pq_blind, va_recv hK hP (ci := 10) (q0 := 0) rfl rfl, pq_pre hK hP hD [0, 1] rfl rfl⟩ rfl rfl hl.1 rfl (lv_room (Nat.le_of_ble_eq_true rfl)) dX10_feed_33 ⟨(by decide +kernel), (by decide +kernel)⟩) hP hD hS hA [0, 1] [] rfl rfl rfl (by decide) (fun u5 H locs hw hP hD hS => ?_)
  have hR9 : pq_R (dC, dI) vwCl A [(h0, .inr (10, [.ref (fa0 0), .ref (fa0 1), .ref (fa0 2), .ref (fa0 20), .ref (fa0 21), .ref (fa0 16), .ref (fa0 17), .ref (fa0 22), .ref (fa0 23), .ref (fa0 18), .ref (fa0 24), .ref (fa0 25), .ref (fa0 19), .int 16, .int 0, .int (-1), .int 0, .int 0, .int 0])), ((fa0 0), .inl (cB, 3000, .inl (upd (upd (upd (upd (upd (upd (upd (upd (upd (upd (upd (upd (upd (upd (upd (upd (fun _ => 0) 0 (vp_nar .byte ((x0 >>> (24 &&& 31)).toInt8.toInt32))) 1 (vp_nar .byte ((x0 >>> (16 &&& 31)).toInt8.toInt32))) 2 (vp_nar .byte ((x0 >>> (8 &&& 31)).toInt8.toInt32))) 3 (vp_nar .byte ((x0 >>> (0 &&& 31)).toInt8.toInt32))) 4 (vp_nar .byte ((x1 >>> (24 &&& 31)).toInt8.toInt32))) 5 (vp_nar .byte ((x1 >>> (16 &&& 31)).toInt8.toInt32))) 6 (vp_nar .byte ((x1 >>> (8 &&& 31)).toInt8.toInt32))) 7 (vp_nar .byte ((x1 >>> (0 &&& 31)).toInt8.toInt32))) 8 (vp_nar .byte ((x2 >>> (24 &&& 31)).toInt8.toInt32))) 9 (vp_nar .byte ((x2 >>> (16 &&& 31)).toInt8.toInt32))) 10 (vp_nar .byte ((x2 >>> (8 &&& 31)).toInt8.toInt32))) 11 (vp_nar .byte ((x2 >>> (0 &&& 31)).toInt8.toInt32))) 12 (vp_nar .byte ((x3 >>> (24 &&& 31)).toInt8.toInt32))) 13 (vp_nar .byte ((x3 >>> (16 &&& 31)).toInt8.toInt32))) 14 (vp_nar .byte ((x3 >>> (8 &&& 31)).toInt8.toInt32))) 15 (vp_nar .byte ((x3 >>> (0 &&& 31)).toInt8.toInt32)))))] H := ⟨hP, hD⟩
  have hP := hR9.1
  have hD := hR9.2
  refine W.widen (k := 0) (n := 0) (by decide +kernel) (by decide +kernel) ?_
  refine lv_aload_n hx hb dX10_feed_36 rfl (lv_at hl 0 rfl) ?_
  refine lv_iload hx hb dX10_feed_37 (lv_at hl 5 rfl) ?_
  refine pq_cv (wr := []) (W1 := (fun u => [(h0, .inr (10, [.ref (fa0 0), .ref (fa0 1), .ref (fa0 2), .ref (fa0 20), .ref (fa0 21), .ref (fa0 16), .ref (fa0 17), .ref (fa0 22), .ref (fa0 23), .ref (fa0 18), .ref (fa0 24), .ref (fa0 25), .ref (fa0 19), .int 20, .int 0, .int (-1), .int 0, .int 0, .int 0])), ((fa0 0), .inl (cB, 3000, .inl (upd (upd (upd (upd (upd (upd (upd (upd (upd (upd (upd (upd (upd (upd (upd (upd (upd (upd (upd (upd (fun _ => 0) 0 (vp_nar .byte ((x0 >>> (24 &&& 31)).toInt8.toInt32))) 1 (vp_nar .byte ((x0 >>> (16 &&& 31)).toInt8.toInt32))) 2 (vp_nar .byte ((x0 >>> (8 &&& 31)).toInt8.toInt32))) 3 (vp_nar .byte ((x0 >>> (0 &&& 31)).toInt8.toInt32))) 4 (vp_nar .byte ((x1 >>> (24 &&& 31)).toInt8.toInt32))) 5 (vp_nar .byte ((x1 >>> (16 &&& 31)).toInt8.toInt32))) 6 (vp_nar .byte ((x1 >>> (8 &&& 31)).toInt8.toInt32))) 7 (vp_nar .byte ((x1 >>> (0 &&& 31)).toInt8.toInt32))) 8 (vp_nar .byte ((x2 >>> (24 &&& 31)).toInt8.toInt32))) 9 (vp_nar .byte ((x2 >>> (16 &&& 31)).toInt8.toInt32))) 10 (vp_nar .byte ((x2 >>> (8 &&& 31)).toInt8.toInt32))) 11 (vp_nar .byte ((x2 >>> (0 &&& 31)).toInt8.toInt32))) 12 (vp_nar .byte ((x3 >>> (24 &&& 31)).toInt8.toInt32))) 13 (vp_nar .byte ((x3 >>> (16 &&& 31)).toInt8.toInt32))) 14 (vp_nar .byte ((x3 >>> (8 &&& 31)).toInt8.toInt32))) 15 (vp_nar .byte ((x3 >>> (0 &&& 31)).toInt8.toInt32))) 16 (vp_nar .byte ((x4 >>> (24 &&& 31)).toInt8.toInt32))) 17 (vp_nar .byte ((x4 >>> (16 &&& 31)).toInt8.toInt32))) 18 (vp_nar .byte ((x4 >>> (8 &&& 31)).toInt8.toInt32))) 19 (vp_nar .byte ((x4 >>> (0 &&& 31)).toInt8.toInt32)))))])) (va_runV (As := [.int x4]) (rest := []) ⟨hx, hb, hml, hown, hts⟩ (cq_X10_feedFour_4 l dC dI cB cI cJ cZ h0 fa0 x4 (upd (upd (upd (upd (upd (upd (upd (upd (upd (upd (upd (upd (upd (upd (upd (upd (fun _ => 0) 0 (vp_nar .byte ((x0 >>> (24 &&& 31)).toInt8.toInt32))) 1 (vp_nar .byte ((x0 >>> (16 &&& 31)).toInt8.toInt32))) 2 (vp_nar .byte ((x0 >>> (8 &&& 31)).toInt8.toInt32))) 3 (vp_nar .byte ((x0 >>> (0 &&& 31)).toInt8.toInt32))) 4 (vp_nar .byte ((x1 >>> (24 &&& 31)).toInt8.toInt32))) 5 (vp_nar .byte ((x1 >>> (16 &&& 31)).toInt8.toInt32))) 6 (vp_nar .byte ((x1 >>> (8 &&& 31)).toInt8.toInt32))) 7 (vp_nar .byte ((x1 >>> (0 &&& 31)).toInt8.toInt32))) 8 (vp_nar .byte ((x2 >>> (24 &&& 31)).toInt8.toInt32))) 9 (vp_nar .byte ((x2 >>> (16 &&& 31)).toInt8.toInt32))) 10 (vp_nar .byte ((x2 >>> (8 &&& 31)).toInt8.toInt32))) 11 (vp_nar .byte ((x2 >>> (0 &&& 31)).toInt8.toInt32))) 12 (vp_nar .byte ((x3 >>> (24 &&& 31)).toInt8.toInt32))) 13 (vp_nar .byte ((x3 >>> (16 &&& 31)).toInt8.toInt32))) 14 (vp_nar .byte ((x3 >>> (8 &&& 31)).toInt8.toInt32))) 15 (vp_nar .byte ((x3 >>> (0 &&& 31)).toInt8.toInt32))) H.size) (cwV 1 hts gq_X10_feed_X10_feedFour_4_108 rfl rfl rfl (by decide +kernel) ⟨(by decide +kernel), (by decide +kernel)⟩) ⟨pq_blind, va_recv hK hP (ci := 10) (q0 := 0) rfl rfl, pq_pre hK hP hD [0, 1] rfl rfl⟩ rfl rfl hl.1 rfl (lv_room (Nat.le_of_ble_eq_true rfl)) dX10_feed_39 ⟨(by decide +kernel), (by decide +kernel)⟩) hP hD hS hA [0, 1] [] rfl rfl rfl (by decide) (fun u6 H locs hw hP hD hS => ?_)
  have hR9 : pq_R (dC, dI) vwCl A [(h0, .inr (10, [.ref (fa0 0), .ref (fa0 1), .ref (fa0 2), .ref (fa0 20), .ref (fa0 21), .ref (fa0 16), .ref (fa0 17), .ref (fa0 22), .ref (fa0 23), .ref (fa0 18), .ref (fa0 24), .ref (fa0 25), .ref (fa0 19), .int 20, .int 0, .int (-1), .int 0, .int 0, .int 0])), ((fa0 0), .inl (cB, 3000, .inl (upd (upd (upd (upd (upd (upd (upd (upd (upd (upd (upd (upd (upd (upd (upd (upd (upd (upd (upd (upd (fun _ => 0) 0 (vp_nar .byte ((x0 >>> (24 &&& 31)).toInt8.toInt32))) 1 (vp_nar .byte ((x0 >>> (16 &&& 31)).toInt8.toInt32))) 2 (vp_nar .byte ((x0 >>> (8 &&& 31)).toInt8.toInt32))) 3 (vp_nar .byte ((x0 >>> (0 &&& 31)).toInt8.toInt32))) 4 (vp_nar .byte ((x1 >>> (24 &&& 31)).toInt8.toInt32))) 5 (vp_nar .byte ((x1 >>> (16 &&& 31)).toInt8.toInt32))) 6 (vp_nar .byte ((x1 >>> (8 &&& 31)).toInt8.toInt32))) 7 (vp_nar .byte ((x1 >>> (0 &&& 31)).toInt8.toInt32))) 8 (vp_nar .byte ((x2 >>> (24 &&& 31)).toInt8.toInt32))) 9 (vp_nar .byte ((x2 >>> (16 &&& 31)).toInt8.toInt32))) 10 (vp_nar .byte ((x2 >>> (8 &&& 31)).toInt8.toInt32))) 11 (vp_nar .byte ((x2 >>> (0 &&& 31)).toInt8.toInt32))) 12 (vp_nar .byte ((x3 >>> (24 &&& 31)).toInt8.toInt32))) 13 (vp_nar .byte ((x3 >>> (16 &&& 31)).toInt8.toInt32))) 14 (vp_nar .byte ((x3 >>> (8 &&& 31)).toInt8.toInt32))) 15 (vp_nar .byte ((x3 >>> (0 &&& 31)).toInt8.toInt32))) 16 (vp_nar .byte ((x4 >>> (24 &&& 31)).toInt8.toInt32))) 17 (vp_nar .byte ((x4 >>> (16 &&& 31)).toInt8.toInt32))) 18 (vp_nar .byte ((x4 >>> (8 &&& 31)).toInt8.toInt32))) 19 (vp_nar .byte ((x4 >>> (0 &&& 31)).toInt8.toInt32)))))] H := ⟨hP, hD⟩
  have hP := hR9.1
  have hD := hR9.2
  refine W.widen (k := 0) (n := 0) (by decide +kernel) (by decide +kernel) ?_
  refine lv_aload_n hx hb dX10_feed_42 rfl (lv_at hl 0 rfl) ?_
  refine va_get (D := (dC, dI)) (ci := 10) (v := .int 20) (C := RX10) (T := TX10) (N := 19) hx hb hts iq_X10_feed_X10 hown hK hP 0 rfl rfl 13 (by decide) (hts (Cond.fieldLink RX10 105 "CodePress" "tapeSize" "I") (List.mem_of_getElem? (i := 1) rfl)) (fun _ h9 => h9) rfl dX10_feed_43 ?_
  have hP9 := pq_P.pick (wc := [(h0, .inr (10, [.ref (fa0 0), .ref (fa0 1), .ref (fa0 2), .ref (fa0 20), .ref (fa0 21), .ref (fa0 16), .ref (fa0 17), .ref (fa0 22), .ref (fa0 23), .ref (fa0 18), .ref (fa0 24), .ref (fa0 25), .ref (fa0 19), .int 20, .int 0, .int (-1), .int 0, .int 0, .int 0])), ((fa0 0), .inl (cB, 3000, .inl (upd (upd (upd (upd (upd (upd (upd (upd (upd (upd (upd (upd (upd (upd (upd (upd (upd (upd (upd (upd (fun _ => 0) 0 (vp_nar .byte ((x0 >>> (24 &&& 31)).toInt8.toInt32))) 1 (vp_nar .byte ((x0 >>> (16 &&& 31)).toInt8.toInt32))) 2 (vp_nar .byte ((x0 >>> (8 &&& 31)).toInt8.toInt32))) 3 (vp_nar .byte ((x0 >>> (0 &&& 31)).toInt8.toInt32))) 4 (vp_nar .byte ((x1 >>> (24 &&& 31)).toInt8.toInt32))) 5 (vp_nar .byte ((x1 >>> (16 &&& 31)).toInt8.toInt32))) 6 (vp_nar .byte ((x1 >>> (8 &&& 31)).toInt8.toInt32))) 7 (vp_nar .byte ((x1 >>> (0 &&& 31)).toInt8.toInt32))) 8 (vp_nar .byte ((x2 >>> (24 &&& 31)).toInt8.toInt32))) 9 (vp_nar .byte ((x2 >>> (16 &&& 31)).toInt8.toInt32))) 10 (vp_nar .byte ((x2 >>> (8 &&& 31)).toInt8.toInt32))) 11 (vp_nar .byte ((x2 >>> (0 &&& 31)).toInt8.toInt32))) 12 (vp_nar .byte ((x3 >>> (24 &&& 31)).toInt8.toInt32))) 13 (vp_nar .byte ((x3 >>> (16 &&& 31)).toInt8.toInt32))) 14 (vp_nar .byte ((x3 >>> (8 &&& 31)).toInt8.toInt32))) 15 (vp_nar .byte ((x3 >>> (0 &&& 31)).toInt8.toInt32))) 16 (vp_nar .byte ((x4 >>> (24 &&& 31)).toInt8.toInt32))) 17 (vp_nar .byte ((x4 >>> (16 &&& 31)).toInt8.toInt32))) 18 (vp_nar .byte ((x4 >>> (8 &&& 31)).toInt8.toInt32))) 19 (vp_nar .byte ((x4 >>> (0 &&& 31)).toInt8.toInt32)))))]) hP [0, 1] rfl
  have hD9 := hD.sub (ws' := [(h0, .inr (10, [.ref (fa0 0), .ref (fa0 1), .ref (fa0 2), .ref (fa0 20), .ref (fa0 21), .ref (fa0 16), .ref (fa0 17), .ref (fa0 22), .ref (fa0 23), .ref (fa0 18), .ref (fa0 24), .ref (fa0 25), .ref (fa0 19), .int 20, .int 0, .int (-1), .int 0, .int 0, .int 0])), ((fa0 0), .inl (cB, 3000, .inl (upd (upd (upd (upd (upd (upd (upd (upd (upd (upd (upd (upd (upd (upd (upd (upd (upd (upd (upd (upd (fun _ => 0) 0 (vp_nar .byte ((x0 >>> (24 &&& 31)).toInt8.toInt32))) 1 (vp_nar .byte ((x0 >>> (16 &&& 31)).toInt8.toInt32))) 2 (vp_nar .byte ((x0 >>> (8 &&& 31)).toInt8.toInt32))) 3 (vp_nar .byte ((x0 >>> (0 &&& 31)).toInt8.toInt32))) 4 (vp_nar .byte ((x1 >>> (24 &&& 31)).toInt8.toInt32))) 5 (vp_nar .byte ((x1 >>> (16 &&& 31)).toInt8.toInt32))) 6 (vp_nar .byte ((x1 >>> (8 &&& 31)).toInt8.toInt32))) 7 (vp_nar .byte ((x1 >>> (0 &&& 31)).toInt8.toInt32))) 8 (vp_nar .byte ((x2 >>> (24 &&& 31)).toInt8.toInt32))) 9 (vp_nar .byte ((x2 >>> (16 &&& 31)).toInt8.toInt32))) 10 (vp_nar .byte ((x2 >>> (8 &&& 31)).toInt8.toInt32))) 11 (vp_nar .byte ((x2 >>> (0 &&& 31)).toInt8.toInt32))) 12 (vp_nar .byte ((x3 >>> (24 &&& 31)).toInt8.toInt32))) 13 (vp_nar .byte ((x3 >>> (16 &&& 31)).toInt8.toInt32))) 14 (vp_nar .byte ((x3 >>> (8 &&& 31)).toInt8.toInt32))) 15 (vp_nar .byte ((x3 >>> (0 &&& 31)).toInt8.toInt32))) 16 (vp_nar .byte ((x4 >>> (24 &&& 31)).toInt8.toInt32))) 17 (vp_nar .byte ((x4 >>> (16 &&& 31)).toInt8.toInt32))) 18 (vp_nar .byte ((x4 >>> (8 &&& 31)).toInt8.toInt32))) 19 (vp_nar .byte ((x4 >>> (0 &&& 31)).toInt8.toInt32)))))]) [0, 1] (by decide) rfl
  refine W.widen (k := 0) (n := 0) (by decide +kernel) (by decide +kernel) ?_
  exact W.iret (v := 20) hx hb hr (fun t ht hW => ⟨⟨20, sq_u [] [], rfl, rfl, pq_B.of ht hP9 hD9⟩, hS.F ht⟩) hS.2.2 dX10_feed_46
def wq_X1_startHalf_r1 : List Cond := [Cond.fieldLink RX1 44 "CodePress$Code" "used" "I", Cond.fieldLink RX1 40 "CodePress$Code" "limit" "I"]
def wq_X1_startHalf : List Cond := Cond.code yX1_startHalf cX1_startHalf 2 none :: (wq_X1_startHalf_r1 ++ wsX10)
theorem iq_X1_startHalf_X1 : ∀ w ∈ wsX10, w ∈ wq_X1_startHalf := fun _ h => List.mem_cons_of_mem _ (List.mem_append_right _ h)
set_option maxHeartbeats 4000000 in
set_option maxRecDepth 100000 in
theorem cq_X1_startHalf (l : Launch) (dC : Nat → ClassId) (dI : Nat → Nat → Nat) (cB cI cJ cZ : ClassId) (fa0 : Nat → Nat) (sz : Nat) : Met l yX1_startHalf wq_X1_startHalf ({ frames := 0, cells := 0, slots := 0, locals := 0 }) (va_Pc [.ref (fa0 2), .int 1] (pq_W (dC, dI) vwCl (tyQ cB cI cJ cZ) [((fa0 2), .inr (1, [.ref (fa0 3), .ref (fa0 4), .ref (fa0 5), .ref (fa0 6), .ref (fa0 7), .ref (fa0 8), .ref (fa0 9), .ref (fa0 31), .ref (fa0 10), .int 0, .int 1700, .int 0]))] sz)) (va_Qv (fun (_ : SQ) => True) (fun u => pq_B (dC, dI) vwCl [((fa0 2), .inr (1, [.ref (fa0 3), .ref (fa0 4), .ref (fa0 5), .ref (fa0 6), .ref (fa0 7), .ref (fa0 8), .ref (fa0 9), .ref (fa0 31), .ref (fa0 10), .int 1700, .int 3400, .int 0]))] (va_A [((fa0 2), .inr (1, [.ref (fa0 3), .ref (fa0 4), .ref (fa0 5), .ref (fa0 6), .ref (fa0 7), .ref (fa0 8), .ref (fa0 9), .ref (fa0 31), .ref (fa0 10), .int 0, .int 1700, .int 0]))] sz)) (va_A [((fa0 2), .inr (1, [.ref (fa0 3), .ref (fa0 4), .ref (fa0 5), .ref (fa0 6), .ref (fa0 7), .ref (fa0 8), .ref (fa0 9), .ref (fa0 31), .ref (fa0 10), .int 0, .int 1700, .int 0]))] sz)) 0 0 (va_A [((fa0 2), .inr (1, [.ref (fa0 3), .ref (fa0 4), .ref (fa0 5), .ref (fa0 6), .ref (fa0 7), .ref (fa0 8), .ref (fa0 9), .ref (fa0 31), .ref (fa0 10), .int 0, .int 1700, .int 0]))] sz) := by
  refine Met.ofW (cc := cX1_startHalf) (maxL := 2) (ret := none) (by decide) rfl ?_
  intro p e s m args below meth c s₁ B hml hv
  obtain ⟨rfl, hsz, hP, hK, hD0⟩ := hv
  have hx := B.exec
  have hb := B.bytes
  have hr := B.returns
  have hts := atoms_spec (ws := wq_X1_startHalf) B.pre
  have hown : s.vm.findClass RX1 = some m.cls := findClass_of_methodNamed B.named
  have hlocks := B.notSynchronized
  subst hsz
  have hD := hD0.self (sz := s.heap.size)
  generalize hAe : va_A [((fa0 2), .inr (1, [.ref (fa0 3), .ref (fa0 4), .ref (fa0 5), .ref (fa0 6), .ref (fa0 7), .ref (fa0 8), .ref (fa0 9), .ref (fa0 31), .ref (fa0 10), .int 0, .int 1700, .int 0]))] s.heap.size = A at hD ⊢
  have hA : ∀ q : Nat, s.heap.size ≤ q → A q := fun q h => by rw [← hAe]; exact Or.inr h
  have hS : va_S A s.heap s.heap [] := va_S.rf
  have hP : va_P (dC, dI) vwCl [((fa0 2), .inr (1, [.ref (fa0 3), .ref (fa0 4), .ref (fa0 5), .ref (fa0 6), .ref (fa0 7), .ref (fa0 8), .ref (fa0 9), .ref (fa0 31), .ref (fa0 10), .int 0, .int 1700, .int 0]))] s.heap := hP
  obtain ⟨H, hH⟩ : ∃ H, H = s.heap := ⟨_, rfl⟩
  rw [← hH] at hP
  have hS : va_S A s.heap H [] := by rw [hH]; exact hS
  have hl := lv_entry ([.ref (fa0 2), .int 1]) (n := 2) (Nat.le_of_ble_eq_true rfl)
  rw [lg_entry_eq]
  generalize (lg_sl ([.ref (fa0 2), .int 1]) ++ List.replicate (2 - (lg_sl ([.ref (fa0 2), .int 1])).length) Slot.unset).toArray = ls at hl ⊢
  have hl : lv_has ls 2 [(0, .ref (fa0 2)), (1, .int 1)] := hl
  refine pq_heap hH ?_
  refine lv_aload_n hx hb dX1_startHalf_0 rfl (lv_at hl 0 rfl) ?_
  refine lv_iload_n hx hb dX1_startHalf_1 rfl (lv_at hl 1 rfl) ?_
  refine lv_if_ne (tgt := 9) hx hb dX1_startHalf_2 (by decide) (fun _ => ?_) (fun c_ => absurd c_ (by decide))
  refine lv_sipush (v := 1700) hx hb dX1_startHalf_9 (by decide) ?_
  refine va_put (D := (dC, dI)) (ci := 1) (v := .int 1700) (ty := .int) (C := RX1) (T := TX1) (N := 12) hx hb hts iq_X1_startHalf_X1 tyX1 tyX1_ok nmX1 hown hK hP hD hS 0 rfl rfl 9 (by decide) (hts (Cond.fieldLink RX1 44 "CodePress$Code" "used" "I") (List.mem_of_getElem? (i := 1) rfl)) (fun _ h9 => h9) rfl (by decide +kernel) rfl rfl (Nat.le_of_ble_eq_true rfl) dX1_startHalf_12 (fun H locs hP hD hS => ?_)
  have hR9 : pq_R (dC, dI) vwCl A [((fa0 2), .inr (1, [.ref (fa0 3), .ref (fa0 4), .ref (fa0 5), .ref (fa0 6), .ref (fa0 7), .ref (fa0 8), .ref (fa0 9), .ref (fa0 31), .ref (fa0 10), .int 1700, .int 1700, .int 0]))] H := ⟨hP, hD⟩
  have hP := hR9.1
  have hD := hR9.2
  refine lv_aload_n hx hb dX1_startHalf_15 rfl (lv_at hl 0 rfl) ?_
  refine lv_aload_n hx hb dX1_startHalf_16 rfl (lv_at hl 0 rfl) ?_
  refine va_get (D := (dC, dI)) (ci := 1) (v := .int 1700) (C := RX1) (T := TX1) (N := 12) hx hb hts iq_X1_startHalf_X1 hown hK hP 0 rfl rfl 9 (by decide) (hts (Cond.fieldLink RX1 44 "CodePress$Code" "used" "I") (List.mem_of_getElem? (i := 1) rfl)) (fun _ h9 => h9) rfl dX1_startHalf_17 ?_
  refine lv_sipush (v := 1700) hx hb dX1_startHalf_20 (by decide) ?_
  refine lv_iadd hx hb dX1_startHalf_23 ?_
  refine lv_topi (fun x1 ex1 => ?_)
  obtain rfl : x1 = 3400 := ex1.trans (by decide)
  refine va_put (D := (dC, dI)) (ci := 1) (v := .int 3400) (ty := .int) (C := RX1) (T := TX1) (N := 12) hx hb hts iq_X1_startHalf_X1 tyX1 tyX1_ok nmX1 hown hK hP hD hS 0 rfl rfl 10 (by decide) (hts (Cond.fieldLink RX1 40 "CodePress$Code" "limit" "I") (List.mem_of_getElem? (i := 2) rfl)) (fun _ h9 => h9) rfl (by decide +kernel) rfl rfl (Nat.le_of_ble_eq_true rfl) dX1_startHalf_24 (fun H locs hP hD hS => ?_)
  have hR9 : pq_R (dC, dI) vwCl A [((fa0 2), .inr (1, [.ref (fa0 3), .ref (fa0 4), .ref (fa0 5), .ref (fa0 6), .ref (fa0 7), .ref (fa0 8), .ref (fa0 9), .ref (fa0 31), .ref (fa0 10), .int 1700, .int 3400, .int 0]))] H := ⟨hP, hD⟩
  have hP := hR9.1
  have hD := hR9.2
  have hP9 := pq_P.pick (wc := [((fa0 2), .inr (1, [.ref (fa0 3), .ref (fa0 4), .ref (fa0 5), .ref (fa0 6), .ref (fa0 7), .ref (fa0 8), .ref (fa0 9), .ref (fa0 31), .ref (fa0 10), .int 1700, .int 3400, .int 0]))]) hP [0] rfl
  have hD9 := hD.sub (ws' := [((fa0 2), .inr (1, [.ref (fa0 3), .ref (fa0 4), .ref (fa0 5), .ref (fa0 6), .ref (fa0 7), .ref (fa0 8), .ref (fa0 9), .ref (fa0 31), .ref (fa0 10), .int 1700, .int 3400, .int 0]))]) [0] (by decide) rfl
  refine W.widen (k := 0) (n := 0) (by decide +kernel) (by decide +kernel) ?_
  exact W.vret hx hb hr (fun t ht hW => ⟨⟨sq_u [] [], rfl, trivial, pq_B.of ht hP9 hD9⟩, hS.F ht⟩) hS.2.2 dX1_startHalf_27
def wq_X8_startHalf_r1 : List Cond := [Cond.fieldLink RX8 28 "CodePress$Types" "used" "I", Cond.fieldLink RX8 32 "CodePress$Types" "limit" "I"]
def wq_X8_startHalf : List Cond := Cond.code yX8_startHalf cX8_startHalf 2 none :: (wq_X8_startHalf_r1 ++ wsX80)
theorem iq_X8_startHalf_X8 : ∀ w ∈ wsX80, w ∈ wq_X8_startHalf := fun _ h => List.mem_cons_of_mem _ (List.mem_append_right _ h)
set_option maxHeartbeats 4000000 in
set_option maxRecDepth 100000 in
theorem cq_X8_startHalf (l : Launch) (dC : Nat → ClassId) (dI : Nat → Nat → Nat) (cB cI cJ cZ : ClassId) (fa0 : Nat → Nat) (sz : Nat) : Met l yX8_startHalf wq_X8_startHalf ({ frames := 0, cells := 0, slots := 0, locals := 0 }) (va_Pc [.ref (fa0 1), .int 1] (pq_W (dC, dI) vwCl (tyQ cB cI cJ cZ) [((fa0 1), .inr (8, [.ref (fa0 26), .ref (fa0 27), .ref (fa0 28), .ref (fa0 29), .ref (fa0 30), .int 2, .int 1802]))] sz)) (va_Qv (fun (_ : SQ) => True) (fun u => pq_B (dC, dI) vwCl [((fa0 1), .inr (8, [.ref (fa0 26), .ref (fa0 27), .ref (fa0 28), .ref (fa0 29), .ref (fa0 30), .int 1802, .int 3602]))] (va_A [((fa0 1), .inr (8, [.ref (fa0 26), .ref (fa0 27), .ref (fa0 28), .ref (fa0 29), .ref (fa0 30), .int 2, .int 1802]))] sz)) (va_A [((fa0 1), .inr (8, [.ref (fa0 26), .ref (fa0 27), .ref (fa0 28), .ref (fa0 29), .ref (fa0 30), .int 2, .int 1802]))] sz)) 0 0 (va_A [((fa0 1), .inr (8, [.ref (fa0 26), .ref (fa0 27), .ref (fa0 28), .ref (fa0 29), .ref (fa0 30), .int 2, .int 1802]))] sz) := by
  refine Met.ofW (cc := cX8_startHalf) (maxL := 2) (ret := none) (by decide) rfl ?_
  intro p e s m args below meth c s₁ B hml hv
  obtain ⟨rfl, hsz, hP, hK, hD0⟩ := hv
  have hx := B.exec
  have hb := B.bytes
  have hr := B.returns
  have hts := atoms_spec (ws := wq_X8_startHalf) B.pre
  have hown : s.vm.findClass RX8 = some m.cls := findClass_of_methodNamed B.named
  have hlocks := B.notSynchronized
  subst hsz
  have hD := hD0.self (sz := s.heap.size)
  generalize hAe : va_A [((fa0 1), .inr (8, [.ref (fa0 26), .ref (fa0 27), .ref (fa0 28), .ref (fa0 29), .ref (fa0 30), .int 2, .int 1802]))] s.heap.size = A at hD ⊢
  have hA : ∀ q : Nat, s.heap.size ≤ q → A q := fun q h => by rw [← hAe]; exact Or.inr h
  have hS : va_S A s.heap s.heap [] := va_S.rf
  have hP : va_P (dC, dI) vwCl [((fa0 1), .inr (8, [.ref (fa0 26), .ref (fa0 27), .ref (fa0 28), .ref (fa0 29), .ref (fa0 30), .int 2, .int 1802]))] s.heap := hP
  obtain ⟨H, hH⟩ : ∃ H, H = s.heap := ⟨_, rfl⟩
  rw [← hH] at hP
  have hS : va_S A s.heap H [] := by rw [hH]; exact hS
  have hl := lv_entry ([.ref (fa0 1), .int 1]) (n := 2) (Nat.le_of_ble_eq_true rfl)
  rw [lg_entry_eq]
  generalize (lg_sl ([.ref (fa0 1), .int 1]) ++ List.replicate (2 - (lg_sl ([.ref (fa0 1), .int 1])).length) Slot.unset).toArray = ls at hl ⊢
  have hl : lv_has ls 2 [(0, .ref (fa0 1)), (1, .int 1)] := hl
  refine pq_heap hH ?_
  refine lv_aload_n hx hb dX8_startHalf_0 rfl (lv_at hl 0 rfl) ?_
  refine lv_iload_n hx hb dX8_startHalf_1 rfl (lv_at hl 1 rfl) ?_
  refine lv_if_ne (tgt := 9) hx hb dX8_startHalf_2 (by decide) (fun _ => ?_) (fun c_ => absurd c_ (by decide))
  refine lv_sipush (v := 1802) hx hb dX8_startHalf_9 (by decide) ?_
  refine va_put (D := (dC, dI)) (ci := 8) (v := .int 1802) (ty := .int) (C := RX8) (T := TX8) (N := 7) hx hb hts iq_X8_startHalf_X8 tyX8 tyX8_ok nmX8 hown hK hP hD hS 0 rfl rfl 5 (by decide) (hts (Cond.fieldLink RX8 28 "CodePress$Types" "used" "I") (List.mem_of_getElem? (i := 1) rfl)) (fun _ h9 => h9) rfl (by decide +kernel) rfl rfl (Nat.le_of_ble_eq_true rfl) dX8_startHalf_12 (fun H locs hP hD hS => ?_)
  have hR9 : pq_R (dC, dI) vwCl A [((fa0 1), .inr (8, [.ref (fa0 26), .ref (fa0 27), .ref (fa0 28), .ref (fa0 29), .ref (fa0 30), .int 1802, .int 1802]))] H := ⟨hP, hD⟩
  have hP := hR9.1
  have hD := hR9.2
  refine lv_aload_n hx hb dX8_startHalf_15 rfl (lv_at hl 0 rfl) ?_
  refine lv_aload_n hx hb dX8_startHalf_16 rfl (lv_at hl 0 rfl) ?_
  refine va_get (D := (dC, dI)) (ci := 8) (v := .int 1802) (C := RX8) (T := TX8) (N := 7) hx hb hts iq_X8_startHalf_X8 hown hK hP 0 rfl rfl 5 (by decide) (hts (Cond.fieldLink RX8 28 "CodePress$Types" "used" "I") (List.mem_of_getElem? (i := 1) rfl)) (fun _ h9 => h9) rfl dX8_startHalf_17 ?_
  refine lv_sipush (v := 1800) hx hb dX8_startHalf_20 (by decide) ?_
  refine lv_iadd hx hb dX8_startHalf_23 ?_
  refine lv_topi (fun x1 ex1 => ?_)
  obtain rfl : x1 = 3602 := ex1.trans (by decide)
  refine va_put (D := (dC, dI)) (ci := 8) (v := .int 3602) (ty := .int) (C := RX8) (T := TX8) (N := 7) hx hb hts iq_X8_startHalf_X8 tyX8 tyX8_ok nmX8 hown hK hP hD hS 0 rfl rfl 6 (by decide) (hts (Cond.fieldLink RX8 32 "CodePress$Types" "limit" "I") (List.mem_of_getElem? (i := 2) rfl)) (fun _ h9 => h9) rfl (by decide +kernel) rfl rfl (Nat.le_of_ble_eq_true rfl) dX8_startHalf_24 (fun H locs hP hD hS => ?_)
  have hR9 : pq_R (dC, dI) vwCl A [((fa0 1), .inr (8, [.ref (fa0 26), .ref (fa0 27), .ref (fa0 28), .ref (fa0 29), .ref (fa0 30), .int 1802, .int 3602]))] H := ⟨hP, hD⟩
  have hP := hR9.1
  have hD := hR9.2
  have hP9 := pq_P.pick (wc := [((fa0 1), .inr (8, [.ref (fa0 26), .ref (fa0 27), .ref (fa0 28), .ref (fa0 29), .ref (fa0 30), .int 1802, .int 3602]))]) hP [0] rfl
  have hD9 := hD.sub (ws' := [((fa0 1), .inr (8, [.ref (fa0 26), .ref (fa0 27), .ref (fa0 28), .ref (fa0 29), .ref (fa0 30), .int 1802, .int 3602]))]) [0] (by decide) rfl
  refine W.widen (k := 0) (n := 0) (by decide +kernel) (by decide +kernel) ?_
  exact W.vret hx hb hr (fun t ht hW => ⟨⟨sq_u [] [], rfl, trivial, pq_B.of ht hP9 hD9⟩, hS.F ht⟩) hS.2.2 dX8_startHalf_27
def wq_X10_startText_r1 : List Cond := [Cond.fieldLink RX10 23 "CodePress" "code" "LCodePress$Code;", Cond.fieldLink RX10 112 "CodePress$Code" "known" "I", Cond.code yX1_startHalf cX1_startHalf 2 none, Cond.fieldLink RX1 44 "CodePress$Code" "used" "I", Cond.fieldLink RX1 40 "CodePress$Code" "limit" "I", Cond.methodLink RX10 191 yX1_startHalf, Cond.instanceMethod yX1_startHalf, Cond.selects RX1 yX1_startHalf yX1_startHalf, Cond.initialized RX1, Cond.fieldLink RX10 16 "CodePress" "types" "LCodePress$Types;", Cond.code yX8_startHalf cX8_startHalf 2 none, Cond.fieldLink RX8 28 "CodePress$Types" "used" "I", Cond.fieldLink RX8 32 "CodePress$Types" "limit" "I", Cond.methodLink RX10 194 yX8_startHalf, Cond.instanceMethod yX8_startHalf, Cond.selects RX8 yX8_startHalf yX8_startHalf, Cond.initialized RX8, Cond.fieldLink RX10 195 "CodePress$Code" "used" "I"]
def wq_X10_startText : List Cond := Cond.code yX10_startText cX10_startText 2 (some .int) :: (wq_X10_startText_r1 ++ wsX100 ++ wsX10 ++ wsX80)
theorem iq_X10_startText_X10 : ∀ w ∈ wsX100, w ∈ wq_X10_startText := fun _ h => List.mem_cons_of_mem _ (List.mem_append_left _ (List.mem_append_left _ (List.mem_append_right _ h)))
theorem iq_X10_startText_X1 : ∀ w ∈ wsX10, w ∈ wq_X10_startText := fun _ h => List.mem_cons_of_mem _ (List.mem_append_left _ (List.mem_append_right _ h))
theorem iq_X10_startText_X8 : ∀ w ∈ wsX80, w ∈ wq_X10_startText := fun _ h => List.mem_cons_of_mem _ (List.mem_append_right _ h)
set_option maxRecDepth 20000 in
theorem gq_X10_startText_X1_startHalf_191_0 : GoodIn wq_X10_startText (Cond.code yX1_startHalf cX1_startHalf 2 none :: wq_X1_startHalf_r1) := goodIn_r _ [3, 4, 5] (by decide +kernel) (by decide +kernel)
set_option maxRecDepth 20000 in
theorem gq_X10_startText_X1_startHalf_191 : GoodIn wq_X10_startText (wsV RX10 191 RX1 yX1_startHalf wq_X1_startHalf) := goodIn_app (goodIn_r _ [6, 7, 8, 9] (by decide +kernel) (by decide +kernel)) (goodIn_ca gq_X10_startText_X1_startHalf_191_0 (goodIn_sub iq_X10_startText_X1 guX1))
set_option maxRecDepth 20000 in
theorem gq_X10_startText_X8_startHalf_194_0 : GoodIn wq_X10_startText (Cond.code yX8_startHalf cX8_startHalf 2 none :: wq_X8_startHalf_r1) := goodIn_r _ [11, 12, 13] (by decide +kernel) (by decide +kernel)
set_option maxRecDepth 20000 in
theorem gq_X10_startText_X8_startHalf_194 : GoodIn wq_X10_startText (wsV RX10 194 RX8 yX8_startHalf wq_X8_startHalf) := goodIn_app (goodIn_r _ [14, 15, 16, 17] (by decide +kernel) (by decide +kernel)) (goodIn_ca gq_X10_startText_X8_startHalf_194_0 (goodIn_sub iq_X10_startText_X8 guX8))
set_option maxHeartbeats 4000000 in
set_option maxRecDepth 100000 in
theorem cq_X10_startText (l : Launch) (dC : Nat → ClassId) (dI : Nat → Nat → Nat) (cB cI cJ cZ : ClassId) (h0 : Nat) (fa0 : Nat → Nat) (sz : Nat) : Met l yX10_startText wq_X10_startText ({ frames := 1, cells := 0, slots := 0, locals := 21 }) (va_Pc [.ref h0] (pq_W (dC, dI) vwCl (tyQ cB cI cJ cZ) [(h0, .inr (10, [.ref (fa0 0), .ref (fa0 1), .ref (fa0 2), .ref (fa0 20), .ref (fa0 21), .ref (fa0 16), .ref (fa0 17), .ref (fa0 22), .ref (fa0 23), .ref (fa0 18), .ref (fa0 24), .ref (fa0 25), .ref (fa0 19), .int 0, .int 0, .int (-1), .int 0, .int 0, .int 0])), ((fa0 2), .inr (1, [.ref (fa0 3), .ref (fa0 4), .ref (fa0 5), .ref (fa0 6), .ref (fa0 7), .ref (fa0 8), .ref (fa0 9), .ref (fa0 31), .ref (fa0 10), .int 0, .int 1700, .int 0])), ((fa0 1), .inr (8, [.ref (fa0 26), .ref (fa0 27), .ref (fa0 28), .ref (fa0 29), .ref (fa0 30), .int 2, .int 1802]))] sz)) (va_Qi (fun (r : Int32) (_ : SQ) => r = 1700) (fun u => pq_B (dC, dI) vwCl [(h0, .inr (10, [.ref (fa0 0), .ref (fa0 1), .ref (fa0 2), .ref (fa0 20), .ref (fa0 21), .ref (fa0 16), .ref (fa0 17), .ref (fa0 22), .ref (fa0 23), .ref (fa0 18), .ref (fa0 24), .ref (fa0 25), .ref (fa0 19), .int 0, .int 0, .int (-1), .int 0, .int 0, .int 0])), ((fa0 2), .inr (1, [.ref (fa0 3), .ref (fa0 4), .ref (fa0 5), .ref (fa0 6), .ref (fa0 7), .ref (fa0 8), .ref (fa0 9), .ref (fa0 31), .ref (fa0 10), .int 1700, .int 3400, .int 0])), ((fa0 1), .inr (8, [.ref (fa0 26), .ref (fa0 27), .ref (fa0 28), .ref (fa0 29), .ref (fa0 30), .int 1802, .int 3602]))] (va_A [(h0, .inr (10, [.ref (fa0 0), .ref (fa0 1), .ref (fa0 2), .ref (fa0 20), .ref (fa0 21), .ref (fa0 16), .ref (fa0 17), .ref (fa0 22), .ref (fa0 23), .ref (fa0 18), .ref (fa0 24), .ref (fa0 25), .ref (fa0 19), .int 0, .int 0, .int (-1), .int 0, .int 0, .int 0])), ((fa0 2), .inr (1, [.ref (fa0 3), .ref (fa0 4), .ref (fa0 5), .ref (fa0 6), .ref (fa0 7), .ref (fa0 8), .ref (fa0 9), .ref (fa0 31), .ref (fa0 10), .int 0, .int 1700, .int 0])), ((fa0 1), .inr (8, [.ref (fa0 26), .ref (fa0 27), .ref (fa0 28), .ref (fa0 29), .ref (fa0 30), .int 2, .int 1802]))] sz)) (va_A [(h0, .inr (10, [.ref (fa0 0), .ref (fa0 1), .ref (fa0 2), .ref (fa0 20), .ref (fa0 21), .ref (fa0 16), .ref (fa0 17), .ref (fa0 22), .ref (fa0 23), .ref (fa0 18), .ref (fa0 24), .ref (fa0 25), .ref (fa0 19), .int 0, .int 0, .int (-1), .int 0, .int 0, .int 0])), ((fa0 2), .inr (1, [.ref (fa0 3), .ref (fa0 4), .ref (fa0 5), .ref (fa0 6), .ref (fa0 7), .ref (fa0 8), .ref (fa0 9), .ref (fa0 31), .ref (fa0 10), .int 0, .int 1700, .int 0])), ((fa0 1), .inr (8, [.ref (fa0 26), .ref (fa0 27), .ref (fa0 28), .ref (fa0 29), .ref (fa0 30), .int 2, .int 1802]))] sz)) 0 0 (va_A [(h0, .inr (10, [.ref (fa0 0), .ref (fa0 1), .ref (fa0 2), .ref (fa0 20), .ref (fa0 21), .ref (fa0 16), .ref (fa0 17), .ref (fa0 22), .ref (fa0 23), .ref (fa0 18), .ref (fa0 24), .ref (fa0 25), .ref (fa0 19), .int 0, .int 0, .int (-1), .int 0, .int 0, .int 0])), ((fa0 2), .inr (1, [.ref (fa0 3), .ref (fa0 4), .ref (fa0 5), .ref (fa0 6), .ref (fa0 7), .ref (fa0 8), .ref (fa0 9), .ref (fa0 31), .ref (fa0 10), .int 0, .int 1700, .int 0])), ((fa0 1), .inr (8, [.ref (fa0 26), .ref (fa0 27), .ref (fa0 28), .ref (fa0 29), .ref (fa0 30), .int 2, .int 1802]))] sz) := by
  refine Met.ofW (cc := cX10_startText) (maxL := 2) (ret := (some .int)) (by decide) rfl ?_
  intro p e s m args below meth c s₁ B hml hv
  obtain ⟨rfl, hsz, hP, hK, hD0⟩ := hv
  have hx := B.exec
  have hb := B.bytes
  have hr := B.returns
  have hts := atoms_spec (ws := wq_X10_startText) B.pre
  have hown : s.vm.findClass RX10 = some m.cls := findClass_of_methodNamed B.named
  have hlocks := B.notSynchronized
  subst hsz
  have hD := hD0.self (sz := s.heap.size)
  generalize hAe : va_A [(h0, .inr (10, [.ref (fa0 0), .ref (fa0 1), .ref (fa0 2), .ref (fa0 20), .ref (fa0 21), .ref (fa0 16), .ref (fa0 17), .ref (fa0 22), .ref (fa0 23), .ref (fa0 18), .ref (fa0 24), .ref (fa0 25), .ref (fa0 19), .int 0, .int 0, .int (-1), .int 0, .int 0, .int 0])), ((fa0 2), .inr (1, [.ref (fa0 3), .ref (fa0 4), .ref (fa0 5), .ref (fa0 6), .ref (fa0 7), .ref (fa0 8), .ref (fa0 9), .ref (fa0 31), .ref (fa0 10), .int 0, .int 1700, .int 0])), ((fa0 1), .inr (8, [.ref (fa0 26), .ref (fa0 27), .ref (fa0 28), .ref (fa0 29), .ref (fa0 30), .int 2, .int 1802]))] s.heap.size = A at hD ⊢
  have hA : ∀ q : Nat, s.heap.size ≤ q → A q := fun q h => by rw [← hAe]; exact Or.inr h
  have hS : va_S A s.heap s.heap [] := va_S.rf
  have hP : va_P (dC, dI) vwCl [(h0, .inr (10, [.ref (fa0 0), .ref (fa0 1), .ref (fa0 2), .ref (fa0 20), .ref (fa0 21), .ref (fa0 16), .ref (fa0 17), .ref (fa0 22), .ref (fa0 23), .ref (fa0 18), .ref (fa0 24), .ref (fa0 25), .ref (fa0 19), .int 0, .int 0, .int (-1), .int 0, .int 0, .int 0])), ((fa0 2), .inr (1, [.ref (fa0 3), .ref (fa0 4), .ref (fa0 5), .ref (fa0 6), .ref (fa0 7), .ref (fa0 8), .ref (fa0 9), .ref (fa0 31), .ref (fa0 10), .int 0, .int 1700, .int 0])), ((fa0 1), .inr (8, [.ref (fa0 26), .ref (fa0 27), .ref (fa0 28), .ref (fa0 29), .ref (fa0 30), .int 2, .int 1802]))] s.heap := hP
  obtain ⟨H, hH⟩ : ∃ H, H = s.heap := ⟨_, rfl⟩
  rw [← hH] at hP
  have hS : va_S A s.heap H [] := by rw [hH]; exact hS
  have hl := lv_entry ([.ref h0]) (n := 2) (Nat.le_of_ble_eq_true rfl)
  rw [lg_entry_eq]
  generalize (lg_sl ([.ref h0]) ++ List.replicate (2 - (lg_sl ([.ref h0])).length) Slot.unset).toArray = ls at hl ⊢
  have hl : lv_has ls 2 [(0, .ref h0)] := hl
  refine pq_heap hH ?_
  refine lv_iconst (v := 1) hx hb dX10_startText_0 (by decide) ?_
  refine lv_aload_n hx hb dX10_startText_1 rfl (lv_at hl 0 rfl) ?_
  refine va_get (D := (dC, dI)) (ci := 10) (v := .ref (fa0 2)) (C := RX10) (T := TX10) (N := 19) hx hb hts iq_X10_startText_X10 hown hK hP 0 rfl rfl 2 (by decide) (hts (Cond.fieldLink RX10 23 "CodePress" "code" "LCodePress$Code;") (List.mem_of_getElem? (i := 1) rfl)) (fun _ h9 => h9) rfl dX10_startText_2 ?_
  refine va_get (D := (dC, dI)) (ci := 1) (v := .int 0) (C := RX1) (T := TX1) (N := 12) hx hb hts iq_X10_startText_X1 hown hK hP 1 rfl rfl 11 (by decide) (hts (Cond.fieldLink RX10 112 "CodePress$Code" "known" "I") (List.mem_of_getElem? (i := 2) rfl)) (fun _ h9 => h9) rfl dX10_startText_5 ?_
  refine lv_isub hx hb dX10_startText_8 ?_
  refine lv_topi (fun x1 ex1 => ?_)
  obtain rfl : x1 = 1 := ex1.trans (by decide)
  refine lv_istore_n (lv' := [(1, .int 1), (0, .ref h0)]) hx hb dX10_startText_9 rfl hl (by decide) rfl (fun ls hl => ?_)
  refine lv_aload_n hx hb dX10_startText_10 rfl (lv_at hl 1 rfl) ?_
  refine va_get (D := (dC, dI)) (ci := 10) (v := .ref (fa0 2)) (C := RX10) (T := TX10) (N := 19) hx hb hts iq_X10_startText_X10 hown hK hP 0 rfl rfl 2 (by decide) (hts (Cond.fieldLink RX10 23 "CodePress" "code" "LCodePress$Code;") (List.mem_of_getElem? (i := 1) rfl)) (fun _ h9 => h9) rfl dX10_startText_11 ?_
  refine lv_iload_n hx hb dX10_startText_14 rfl (lv_at hl 0 rfl) ?_
  refine pq_cv (wr := [(h0, .inr (10, [.ref (fa0 0), .ref (fa0 1), .ref (fa0 2), .ref (fa0 20), .ref (fa0 21), .ref (fa0 16), .ref (fa0 17), .ref (fa0 22), .ref (fa0 23), .ref (fa0 18), .ref (fa0 24), .ref (fa0 25), .ref (fa0 19), .int 0, .int 0, .int (-1), .int 0, .int 0, .int 0])), ((fa0 1), .inr (8, [.ref (fa0 26), .ref (fa0 27), .ref (fa0 28), .ref (fa0 29), .ref (fa0 30), .int 2, .int 1802]))]) (W1 := (fun u => [((fa0 2), .inr (1, [.ref (fa0 3), .ref (fa0 4), .ref (fa0 5), .ref (fa0 6), .ref (fa0 7), .ref (fa0 8), .ref (fa0 9), .ref (fa0 31), .ref (fa0 10), .int 1700, .int 3400, .int 0]))])) (va_runV (As := [.int 1]) (rest := []) ⟨hx, hb, hml, hown, hts⟩ (cq_X1_startHalf l dC dI cB cI cJ cZ fa0 H.size) (cwV 1 hts gq_X10_startText_X1_startHalf_191 rfl rfl rfl (by decide +kernel) ⟨(by decide +kernel), (by decide +kernel)⟩) ⟨pq_blind, va_recv hK hP (ci := 1) (q0 := 1) rfl rfl, pq_pre hK hP hD [1] rfl rfl⟩ rfl rfl hl.1 rfl (lv_room (Nat.le_of_ble_eq_true rfl)) dX10_startText_15 ⟨(by decide +kernel), (by decide +kernel)⟩) hP hD hS hA [1] [0, 2] rfl rfl rfl (by decide) (fun u2 H locs hw hP hD hS => ?_)
  have hR9 : pq_R (dC, dI) vwCl A [(h0, .inr (10, [.ref (fa0 0), .ref (fa0 1), .ref (fa0 2), .ref (fa0 20), .ref (fa0 21), .ref (fa0 16), .ref (fa0 17), .ref (fa0 22), .ref (fa0 23), .ref (fa0 18), .ref (fa0 24), .ref (fa0 25), .ref (fa0 19), .int 0, .int 0, .int (-1), .int 0, .int 0, .int 0])), ((fa0 1), .inr (8, [.ref (fa0 26), .ref (fa0 27), .ref (fa0 28), .ref (fa0 29), .ref (fa0 30), .int 2, .int 1802])), ((fa0 2), .inr (1, [.ref (fa0 3), .ref (fa0 4), .ref (fa0 5), .ref (fa0 6), .ref (fa0 7), .ref (fa0 8), .ref (fa0 9), .ref (fa0 31), .ref (fa0 10), .int 1700, .int 3400, .int 0]))] H := ⟨hP, hD⟩
  have hP := hR9.1
  have hD := hR9.2
  refine W.widen (k := 0) (n := 0) (by decide +kernel) (by decide +kernel) ?_
  refine lv_aload_n hx hb dX10_startText_18 rfl (lv_at hl 1 rfl) ?_
  refine va_get (D := (dC, dI)) (ci := 10) (v := .ref (fa0 1)) (C := RX10) (T := TX10) (N := 19) hx hb hts iq_X10_startText_X10 hown hK hP 0 rfl rfl 1 (by decide) (hts (Cond.fieldLink RX10 16 "CodePress" "types" "LCodePress$Types;") (List.mem_of_getElem? (i := 10) rfl)) (fun _ h9 => h9) rfl dX10_startText_19 ?_
  refine lv_iload_n hx hb dX10_startText_22 rfl (lv_at hl 0 rfl) ?_
  refine pq_cv (wr := [(h0, .inr (10, [.ref (fa0 0), .ref (fa0 1), .ref (fa0 2), .ref (fa0 20), .ref (fa0 21), .ref (fa0 16), .ref (fa0 17), .ref (fa0 22), .ref (fa0 23), .ref (fa0 18), .ref (fa0 24), .ref (fa0 25), .ref (fa0 19), .int 0, .int 0, .int (-1), .int 0, .int 0, .int 0])), ((fa0 2), .inr (1, [.ref (fa0 3), .ref (fa0 4), .ref (fa0 5), .ref (fa0 6), .ref (fa0 7), .ref (fa0 8), .ref (fa0 9), .ref (fa0 31), .ref (fa0 10), .int 1700, .int 3400, .int 0]))]) (W1 := (fun u => [((fa0 1), .inr (8, [.ref (fa0 26), .ref (fa0 27), .ref (fa0 28), .ref (fa0 29), .ref (fa0 30), .int 1802, .int 3602]))])) (va_runV (As := [.int 1]) (rest := []) ⟨hx, hb, hml, hown, hts⟩ (cq_X8_startHalf l dC dI cB cI cJ cZ fa0 H.size) (cwV 1 hts gq_X10_startText_X8_startHalf_194 rfl rfl rfl (by decide +kernel) ⟨(by decide +kernel), (by decide +kernel)⟩) ⟨pq_blind, va_recv hK hP (ci := 8) (q0 := 1) rfl rfl, pq_pre hK hP hD [1] rfl rfl⟩ rfl rfl hl.1 rfl (lv_room (Nat.le_of_ble_eq_true rfl)) dX10_startText_23 ⟨(by decide +kernel), (by decide +kernel)⟩) hP hD hS hA [1] [0, 2] rfl rfl rfl (by decide) (fun u3 H locs hw hP hD hS => ?_)
  have hR9 : pq_R (dC, dI) vwCl A [(h0, .inr (10, [.ref (fa0 0), .ref (fa0 1), .ref (fa0 2), .ref (fa0 20), .ref (fa0 21), .ref (fa0 16), .ref (fa0 17), .ref (fa0 22), .ref (fa0 23), .ref (fa0 18), .ref (fa0 24), .ref (fa0 25), .ref (fa0 19), .int 0, .int 0, .int (-1), .int 0, .int 0, .int 0])), ((fa0 2), .inr (1, [.ref (fa0 3), .ref (fa0 4), .ref (fa0 5), .ref (fa0 6), .ref (fa0 7), .ref (fa0 8), .ref (fa0 9), .ref (fa0 31), .ref (fa0 10), .int 1700, .int 3400, .int 0])), ((fa0 1), .inr (8, [.ref (fa0 26), .ref (fa0 27), .ref (fa0 28), .ref (fa0 29), .ref (fa0 30), .int 1802, .int 3602]))] H := ⟨hP, hD⟩
  have hP := hR9.1
  have hD := hR9.2
  refine W.widen (k := 0) (n := 0) (by decide +kernel) (by decide +kernel) ?_
  refine lv_aload_n hx hb dX10_startText_26 rfl (lv_at hl 1 rfl) ?_
  refine va_get (D := (dC, dI)) (ci := 10) (v := .ref (fa0 2)) (C := RX10) (T := TX10) (N := 19) hx hb hts iq_X10_startText_X10 hown hK hP 0 rfl rfl 2 (by decide) (hts (Cond.fieldLink RX10 23 "CodePress" "code" "LCodePress$Code;") (List.mem_of_getElem? (i := 1) rfl)) (fun _ h9 => h9) rfl dX10_startText_27 ?_
  refine va_get (D := (dC, dI)) (ci := 1) (v := .int 1700) (C := RX1) (T := TX1) (N := 12) hx hb hts iq_X10_startText_X1 hown hK hP 1 rfl rfl 9 (by decide) (hts (Cond.fieldLink RX10 195 "CodePress$Code" "used" "I") (List.mem_of_getElem? (i := 18) rfl)) (fun _ h9 => h9) rfl dX10_startText_30 ?_
  have hP9 := pq_P.pick (wc := [(h0, .inr (10, [.ref (fa0 0), .ref (fa0 1), .ref (fa0 2), .ref (fa0 20), .ref (fa0 21), .ref (fa0 16), .ref (fa0 17), .ref (fa0 22), .ref (fa0 23), .ref (fa0 18), .ref (fa0 24), .ref (fa0 25), .ref (fa0 19), .int 0, .int 0, .int (-1), .int 0, .int 0, .int 0])), ((fa0 2), .inr (1, [.ref (fa0 3), .ref (fa0 4), .ref (fa0 5), .ref (fa0 6), .ref (fa0 7), .ref (fa0 8), .ref (fa0 9), .ref (fa0 31), .ref (fa0 10), .int 1700, .int 3400, .int 0])), ((fa0 1), .inr (8, [.ref (fa0 26), .ref (fa0 27), .ref (fa0 28), .ref (fa0 29), .ref (fa0 30), .int 1802, .int 3602]))]) hP [0, 1, 2] rfl
  have hD9 := hD.sub (ws' := [(h0, .inr (10, [.ref (fa0 0), .ref (fa0 1), .ref (fa0 2), .ref (fa0 20), .ref (fa0 21), .ref (fa0 16), .ref (fa0 17), .ref (fa0 22), .ref (fa0 23), .ref (fa0 18), .ref (fa0 24), .ref (fa0 25), .ref (fa0 19), .int 0, .int 0, .int (-1), .int 0, .int 0, .int 0])), ((fa0 2), .inr (1, [.ref (fa0 3), .ref (fa0 4), .ref (fa0 5), .ref (fa0 6), .ref (fa0 7), .ref (fa0 8), .ref (fa0 9), .ref (fa0 31), .ref (fa0 10), .int 1700, .int 3400, .int 0])), ((fa0 1), .inr (8, [.ref (fa0 26), .ref (fa0 27), .ref (fa0 28), .ref (fa0 29), .ref (fa0 30), .int 1802, .int 3602]))]) [0, 1, 2] (by decide) rfl
  refine W.widen (k := 0) (n := 0) (by decide +kernel) (by decide +kernel) ?_
  exact W.iret (v := 1700) hx hb hr (fun t ht hW => ⟨⟨1700, sq_u [] [], rfl, rfl, pq_B.of ht hP9 hD9⟩, hS.F ht⟩) hS.2.2 dX10_startText_33
def wq_X1_startDefs_r1 : List Cond := [Cond.fieldLink RX1 47 "CodePress$Code" "known" "I", Cond.fieldLink RX1 37 "CodePress$Code" "defCount" "[I"]
def wq_X1_startDefs : List Cond := Cond.code yX1_startDefs cX1_startDefs 2 none :: (wq_X1_startDefs_r1 ++ wsX10)
theorem iq_X1_startDefs_X1 : ∀ w ∈ wsX10, w ∈ wq_X1_startDefs := fun _ h => List.mem_cons_of_mem _ (List.mem_append_right _ h)
set_option maxHeartbeats 4000000 in
set_option maxRecDepth 100000 in
theorem cq_X1_startDefs (l : Launch) (dC : Nat → ClassId) (dI : Nat → Nat → Nat) (cB cI cJ cZ : ClassId) (fa0 : Nat → Nat) (sz : Nat) : Met l yX1_startDefs wq_X1_startDefs ({ frames := 0, cells := 0, slots := 0, locals := 0 }) (va_Pc [.ref (fa0 2), .int 1] (pq_W (dC, dI) vwCl (tyQ cB cI cJ cZ) [((fa0 2), .inr (1, [.ref (fa0 3), .ref (fa0 4), .ref (fa0 5), .ref (fa0 6), .ref (fa0 7), .ref (fa0 8), .ref (fa0 9), .ref (fa0 31), .ref (fa0 10), .int 1700, .int 3400, .int 0])), ((fa0 10), .inl (cI, 2, .inl (fun _ => 0)))] sz)) (va_Qv (fun (_ : SQ) => True) (fun u => pq_B (dC, dI) vwCl [((fa0 2), .inr (1, [.ref (fa0 3), .ref (fa0 4), .ref (fa0 5), .ref (fa0 6), .ref (fa0 7), .ref (fa0 8), .ref (fa0 9), .ref (fa0 31), .ref (fa0 10), .int 1700, .int 3400, .int 1])), ((fa0 10), .inl (cI, 2, .inl (upd (fun _ => 0) 1 0)))] (va_A [((fa0 2), .inr (1, [.ref (fa0 3), .ref (fa0 4), .ref (fa0 5), .ref (fa0 6), .ref (fa0 7), .ref (fa0 8), .ref (fa0 9), .ref (fa0 31), .ref (fa0 10), .int 1700, .int 3400, .int 0])), ((fa0 10), .inl (cI, 2, .inl (fun _ => 0)))] sz)) (va_A [((fa0 2), .inr (1, [.ref (fa0 3), .ref (fa0 4), .ref (fa0 5), .ref (fa0 6), .ref (fa0 7), .ref (fa0 8), .ref (fa0 9), .ref (fa0 31), .ref (fa0 10), .int 1700, .int 3400, .int 0])), ((fa0 10), .inl (cI, 2, .inl (fun _ => 0)))] sz)) 0 0 (va_A [((fa0 2), .inr (1, [.ref (fa0 3), .ref (fa0 4), .ref (fa0 5), .ref (fa0 6), .ref (fa0 7), .ref (fa0 8), .ref (fa0 9), .ref (fa0 31), .ref (fa0 10), .int 1700, .int 3400, .int 0])), ((fa0 10), .inl (cI, 2, .inl (fun _ => 0)))] sz) := by
  refine Met.ofW (cc := cX1_startDefs) (maxL := 2) (ret := none) (by decide) rfl ?_
  intro p e s m args below meth c s₁ B hml hv
  obtain ⟨rfl, hsz, hP, hK, hD0⟩ := hv
  have hx := B.exec
  have hb := B.bytes
  have hr := B.returns
  have hts := atoms_spec (ws := wq_X1_startDefs) B.pre
  have hown : s.vm.findClass RX1 = some m.cls := findClass_of_methodNamed B.named
  have hlocks := B.notSynchronized
  subst hsz
  have hD := hD0.self (sz := s.heap.size)
  generalize hAe : va_A [((fa0 2), .inr (1, [.ref (fa0 3), .ref (fa0 4), .ref (fa0 5), .ref (fa0 6), .ref (fa0 7), .ref (fa0 8), .ref (fa0 9), .ref (fa0 31), .ref (fa0 10), .int 1700, .int 3400, .int 0])), ((fa0 10), .inl (cI, 2, .inl (fun _ => 0)))] s.heap.size = A at hD ⊢
  have hA : ∀ q : Nat, s.heap.size ≤ q → A q := fun q h => by rw [← hAe]; exact Or.inr h
  have hS : va_S A s.heap s.heap [] := va_S.rf
  have hP : va_P (dC, dI) vwCl [((fa0 2), .inr (1, [.ref (fa0 3), .ref (fa0 4), .ref (fa0 5), .ref (fa0 6), .ref (fa0 7), .ref (fa0 8), .ref (fa0 9), .ref (fa0 31), .ref (fa0 10), .int 1700, .int 3400, .int 0])), ((fa0 10), .inl (cI, 2, .inl (fun _ => 0)))] s.heap := hP
  obtain ⟨H, hH⟩ : ∃ H, H = s.heap := ⟨_, rfl⟩
  rw [← hH] at hP
  have hS : va_S A s.heap H [] := by rw [hH]; exact hS
  have hl := lv_entry ([.ref (fa0 2), .int 1]) (n := 2) (Nat.le_of_ble_eq_true rfl)
  rw [lg_entry_eq]
  generalize (lg_sl ([.ref (fa0 2), .int 1]) ++ List.replicate (2 - (lg_sl ([.ref (fa0 2), .int 1])).length) Slot.unset).toArray = ls at hl ⊢
  have hl : lv_has ls 2 [(0, .ref (fa0 2)), (1, .int 1)] := hl
  refine pq_heap hH ?_
  refine lv_aload_n hx hb dX1_startDefs_0 rfl (lv_at hl 0 rfl) ?_
  refine lv_iload_n hx hb dX1_startDefs_1 rfl (lv_at hl 1 rfl) ?_
  refine lv_if_ne (tgt := 9) hx hb dX1_startDefs_2 (by decide) (fun _ => ?_) (fun c_ => absurd c_ (by decide))
  refine lv_iconst (v := 1) hx hb dX1_startDefs_9 (by decide) ?_
  refine va_put (D := (dC, dI)) (ci := 1) (v := .int 1) (ty := .int) (C := RX1) (T := TX1) (N := 12) hx hb hts iq_X1_startDefs_X1 tyX1 tyX1_ok nmX1 hown hK hP hD hS 0 rfl rfl 11 (by decide) (hts (Cond.fieldLink RX1 47 "CodePress$Code" "known" "I") (List.mem_of_getElem? (i := 1) rfl)) (fun _ h9 => h9) rfl (by decide +kernel) rfl rfl (Nat.le_of_ble_eq_true rfl) dX1_startDefs_10 (fun H locs hP hD hS => ?_)
  have hR9 : pq_R (dC, dI) vwCl A [((fa0 2), .inr (1, [.ref (fa0 3), .ref (fa0 4), .ref (fa0 5), .ref (fa0 6), .ref (fa0 7), .ref (fa0 8), .ref (fa0 9), .ref (fa0 31), .ref (fa0 10), .int 1700, .int 3400, .int 1])), ((fa0 10), .inl (cI, 2, .inl (fun _ => 0)))] H := ⟨hP, hD⟩
  have hP := hR9.1
  have hD := hR9.2
  refine lv_aload_n hx hb dX1_startDefs_13 rfl (lv_at hl 0 rfl) ?_
  refine va_get (D := (dC, dI)) (ci := 1) (v := .ref (fa0 10)) (C := RX1) (T := TX1) (N := 12) hx hb hts iq_X1_startDefs_X1 hown hK hP 0 rfl rfl 8 (by decide) (hts (Cond.fieldLink RX1 37 "CodePress$Code" "defCount" "[I") (List.mem_of_getElem? (i := 2) rfl)) (fun _ h9 => h9) rfl dX1_startDefs_14 ?_
  refine lv_aload_n hx hb dX1_startDefs_17 rfl (lv_at hl 0 rfl) ?_
  refine va_get (D := (dC, dI)) (ci := 1) (v := .int 1) (C := RX1) (T := TX1) (N := 12) hx hb hts iq_X1_startDefs_X1 hown hK hP 0 rfl rfl 11 (by decide) (hts (Cond.fieldLink RX1 47 "CodePress$Code" "known" "I") (List.mem_of_getElem? (i := 1) rfl)) (fun _ h9 => h9) rfl dX1_startDefs_18 ?_
  refine lv_iconst (v := 0) hx hb dX1_startDefs_21 (by decide) ?_
  refine va_iast hx hb hK hP hD hS 1 1 rfl rfl (pq_in (by decide)) dX1_startDefs_22 (fun H locs hP hD hS => ?_)
  have hR9 : pq_R (dC, dI) vwCl A [((fa0 2), .inr (1, [.ref (fa0 3), .ref (fa0 4), .ref (fa0 5), .ref (fa0 6), .ref (fa0 7), .ref (fa0 8), .ref (fa0 9), .ref (fa0 31), .ref (fa0 10), .int 1700, .int 3400, .int 1])), ((fa0 10), .inl (cI, 2, .inl (upd (fun _ => 0) 1 0)))] H := ⟨hP, hD⟩
  have hP := hR9.1
  have hD := hR9.2
  have hP9 := pq_P.pick (wc := [((fa0 2), .inr (1, [.ref (fa0 3), .ref (fa0 4), .ref (fa0 5), .ref (fa0 6), .ref (fa0 7), .ref (fa0 8), .ref (fa0 9), .ref (fa0 31), .ref (fa0 10), .int 1700, .int 3400, .int 1])), ((fa0 10), .inl (cI, 2, .inl (upd (fun _ => 0) 1 0)))]) hP [0, 1] rfl
  have hD9 := hD.sub (ws' := [((fa0 2), .inr (1, [.ref (fa0 3), .ref (fa0 4), .ref (fa0 5), .ref (fa0 6), .ref (fa0 7), .ref (fa0 8), .ref (fa0 9), .ref (fa0 31), .ref (fa0 10), .int 1700, .int 3400, .int 1])), ((fa0 10), .inl (cI, 2, .inl (upd (fun _ => 0) 1 0)))]) [0, 1] (by decide) rfl
  refine W.widen (k := 0) (n := 0) (by decide +kernel) (by decide +kernel) ?_
  exact W.vret hx hb hr (fun t ht hW => ⟨⟨sq_u [] [], rfl, trivial, pq_B.of ht hP9 hD9⟩, hS.F ht⟩) hS.2.2 dX1_startDefs_23
def wq_X2_next_r1 : List Cond := [Cond.fieldLink RX2 54 "CodePress$Lexer" "pos" "I", Cond.fieldLink RX2 50 "CodePress$Lexer" "size" "I", Cond.fieldLink RX2 63 "CodePress$Lexer" "at" "I", Cond.fieldLink RX2 57 "CodePress$Lexer" "kind" "I"]
def wq_X2_next : List Cond := Cond.code yX2_next cX2_next 1 none :: (wq_X2_next_r1 ++ wsX20)
theorem iq_X2_next_X2 : ∀ w ∈ wsX20, w ∈ wq_X2_next := fun _ h => List.mem_cons_of_mem _ (List.mem_append_right _ h)
set_option maxHeartbeats 4000000 in
set_option maxRecDepth 100000 in
theorem cq_X2_next (l : Launch) (dC : Nat → ClassId) (dI : Nat → Nat → Nat) (cB cI cJ cZ : ClassId) (fa0 : Nat → Nat) (sz : Nat) : Met l yX2_next wq_X2_next ({ frames := 0, cells := 0, slots := 0, locals := 0 }) (va_Pc [.ref (fa0 11)] (pq_W (dC, dI) vwCl (tyQ cB cI cJ cZ) [((fa0 11), .inr (2, [.ref (fa0 0), .ref (fa0 32), .ref (fa0 12), .ref (fa0 13), .ref (fa0 14), .ref (fa0 15), .int 0, .int 0, .int 261, .int 0, .int 0, .long 0]))] sz)) (va_Qv (fun (_ : SQ) => True) (fun u => pq_B (dC, dI) vwCl [((fa0 11), .inr (2, [.ref (fa0 0), .ref (fa0 32), .ref (fa0 12), .ref (fa0 13), .ref (fa0 14), .ref (fa0 15), .int 0, .int 0, .int 260, .int 0, .int 0, .long 0]))] (va_A [((fa0 11), .inr (2, [.ref (fa0 0), .ref (fa0 32), .ref (fa0 12), .ref (fa0 13), .ref (fa0 14), .ref (fa0 15), .int 0, .int 0, .int 261, .int 0, .int 0, .long 0]))] sz)) (va_A [((fa0 11), .inr (2, [.ref (fa0 0), .ref (fa0 32), .ref (fa0 12), .ref (fa0 13), .ref (fa0 14), .ref (fa0 15), .int 0, .int 0, .int 261, .int 0, .int 0, .long 0]))] sz)) 0 0 (va_A [((fa0 11), .inr (2, [.ref (fa0 0), .ref (fa0 32), .ref (fa0 12), .ref (fa0 13), .ref (fa0 14), .ref (fa0 15), .int 0, .int 0, .int 261, .int 0, .int 0, .long 0]))] sz) := by
  refine Met.ofW (cc := cX2_next) (maxL := 1) (ret := none) (by decide) rfl ?_
  intro p e s m args below meth c s₁ B hml hv
  obtain ⟨rfl, hsz, hP, hK, hD0⟩ := hv
  have hx := B.exec
  have hb := B.bytes
  have hr := B.returns
  have hts := atoms_spec (ws := wq_X2_next) B.pre
  have hown : s.vm.findClass RX2 = some m.cls := findClass_of_methodNamed B.named
  have hlocks := B.notSynchronized
  subst hsz
  have hD := hD0.self (sz := s.heap.size)
  generalize hAe : va_A [((fa0 11), .inr (2, [.ref (fa0 0), .ref (fa0 32), .ref (fa0 12), .ref (fa0 13), .ref (fa0 14), .ref (fa0 15), .int 0, .int 0, .int 261, .int 0, .int 0, .long 0]))] s.heap.size = A at hD ⊢
  have hA : ∀ q : Nat, s.heap.size ≤ q → A q := fun q h => by rw [← hAe]; exact Or.inr h
  have hS : va_S A s.heap s.heap [] := va_S.rf
  have hP : va_P (dC, dI) vwCl [((fa0 11), .inr (2, [.ref (fa0 0), .ref (fa0 32), .ref (fa0 12), .ref (fa0 13), .ref (fa0 14), .ref (fa0 15), .int 0, .int 0, .int 261, .int 0, .int 0, .long 0]))] s.heap := hP
  obtain ⟨H, hH⟩ : ∃ H, H = s.heap := ⟨_, rfl⟩
  rw [← hH] at hP
  have hS : va_S A s.heap H [] := by rw [hH]; exact hS
  have hl := lv_entry ([.ref (fa0 11)]) (n := 1) (Nat.le_of_ble_eq_true rfl)
  rw [lg_entry_eq]
  generalize (lg_sl ([.ref (fa0 11)]) ++ List.replicate (1 - (lg_sl ([.ref (fa0 11)])).length) Slot.unset).toArray = ls at hl ⊢
  have hl : lv_has ls 1 [(0, .ref (fa0 11))] := hl
  refine pq_heap hH ?_
  refine lv_aload_n hx hb dX2_next_0 rfl (lv_at hl 0 rfl) ?_
  refine va_get (D := (dC, dI)) (ci := 2) (v := .int 0) (C := RX2) (T := TX2) (N := 12) hx hb hts iq_X2_next_X2 hown hK hP 0 rfl rfl 7 (by decide) (hts (Cond.fieldLink RX2 54 "CodePress$Lexer" "pos" "I") (List.mem_of_getElem? (i := 1) rfl)) (fun _ h9 => h9) rfl dX2_next_1 ?_
  refine lv_aload_n hx hb dX2_next_4 rfl (lv_at hl 0 rfl) ?_
  refine va_get (D := (dC, dI)) (ci := 2) (v := .int 0) (C := RX2) (T := TX2) (N := 12) hx hb hts iq_X2_next_X2 hown hK hP 0 rfl rfl 6 (by decide) (hts (Cond.fieldLink RX2 50 "CodePress$Lexer" "size" "I") (List.mem_of_getElem? (i := 2) rfl)) (fun _ h9 => h9) rfl dX2_next_5 ?_
  refine lv_icmp_ge (tgt := 52) hx hb dX2_next_8 (by decide) (fun _ => ?_) (fun c_ => absurd (by decide) c_)
  refine lv_aload_n hx hb dX2_next_52 rfl (lv_at hl 0 rfl) ?_
  refine lv_aload_n hx hb dX2_next_53 rfl (lv_at hl 0 rfl) ?_
  refine va_get (D := (dC, dI)) (ci := 2) (v := .int 0) (C := RX2) (T := TX2) (N := 12) hx hb hts iq_X2_next_X2 hown hK hP 0 rfl rfl 7 (by decide) (hts (Cond.fieldLink RX2 54 "CodePress$Lexer" "pos" "I") (List.mem_of_getElem? (i := 1) rfl)) (fun _ h9 => h9) rfl dX2_next_54 ?_
  refine va_put (D := (dC, dI)) (ci := 2) (v := .int 0) (ty := .int) (C := RX2) (T := TX2) (N := 12) hx hb hts iq_X2_next_X2 tyX2 tyX2_ok nmX2 hown hK hP hD hS 0 rfl rfl 9 (by decide) (hts (Cond.fieldLink RX2 63 "CodePress$Lexer" "at" "I") (List.mem_of_getElem? (i := 3) rfl)) (fun _ h9 => h9) rfl (by decide +kernel) rfl rfl (Nat.le_of_ble_eq_true rfl) dX2_next_57 (fun H locs hP hD hS => ?_)
  have hR9 : pq_R (dC, dI) vwCl A [((fa0 11), .inr (2, [.ref (fa0 0), .ref (fa0 32), .ref (fa0 12), .ref (fa0 13), .ref (fa0 14), .ref (fa0 15), .int 0, .int 0, .int 261, .int 0, .int 0, .long 0]))] H := ⟨hP, hD⟩
  have hP := hR9.1
  have hD := hR9.2
  refine lv_aload_n hx hb dX2_next_60 rfl (lv_at hl 0 rfl) ?_
  refine va_get (D := (dC, dI)) (ci := 2) (v := .int 0) (C := RX2) (T := TX2) (N := 12) hx hb hts iq_X2_next_X2 hown hK hP 0 rfl rfl 7 (by decide) (hts (Cond.fieldLink RX2 54 "CodePress$Lexer" "pos" "I") (List.mem_of_getElem? (i := 1) rfl)) (fun _ h9 => h9) rfl dX2_next_61 ?_
  refine lv_aload_n hx hb dX2_next_64 rfl (lv_at hl 0 rfl) ?_
  refine va_get (D := (dC, dI)) (ci := 2) (v := .int 0) (C := RX2) (T := TX2) (N := 12) hx hb hts iq_X2_next_X2 hown hK hP 0 rfl rfl 6 (by decide) (hts (Cond.fieldLink RX2 50 "CodePress$Lexer" "size" "I") (List.mem_of_getElem? (i := 2) rfl)) (fun _ h9 => h9) rfl dX2_next_65 ?_
  refine lv_icmp_lt (tgt := 81) hx hb dX2_next_68 (by decide) (fun c_ => absurd c_ (by decide)) (fun _ => ?_)
  refine lv_aload_n hx hb dX2_next_71 rfl (lv_at hl 0 rfl) ?_
  refine lv_sipush (v := 260) hx hb dX2_next_72 (by decide) ?_
  refine va_put (D := (dC, dI)) (ci := 2) (v := .int 260) (ty := .int) (C := RX2) (T := TX2) (N := 12) hx hb hts iq_X2_next_X2 tyX2 tyX2_ok nmX2 hown hK hP hD hS 0 rfl rfl 8 (by decide) (hts (Cond.fieldLink RX2 57 "CodePress$Lexer" "kind" "I") (List.mem_of_getElem? (i := 4) rfl)) (fun _ h9 => h9) rfl (by decide +kernel) rfl rfl (Nat.le_of_ble_eq_true rfl) dX2_next_75 (fun H locs hP hD hS => ?_)
  have hR9 : pq_R (dC, dI) vwCl A [((fa0 11), .inr (2, [.ref (fa0 0), .ref (fa0 32), .ref (fa0 12), .ref (fa0 13), .ref (fa0 14), .ref (fa0 15), .int 0, .int 0, .int 260, .int 0, .int 0, .long 0]))] H := ⟨hP, hD⟩
  have hP := hR9.1
  have hD := hR9.2
  refine lv_goto (tgt := 129) hx hb dX2_next_78 (by decide) ?_
  have hP9 := pq_P.pick (wc := [((fa0 11), .inr (2, [.ref (fa0 0), .ref (fa0 32), .ref (fa0 12), .ref (fa0 13), .ref (fa0 14), .ref (fa0 15), .int 0, .int 0, .int 260, .int 0, .int 0, .long 0]))]) hP [0] rfl
  have hD9 := hD.sub (ws' := [((fa0 11), .inr (2, [.ref (fa0 0), .ref (fa0 32), .ref (fa0 12), .ref (fa0 13), .ref (fa0 14), .ref (fa0 15), .int 0, .int 0, .int 260, .int 0, .int 0, .long 0]))]) [0] (by decide) rfl
  refine W.widen (k := 0) (n := 0) (by decide +kernel) (by decide +kernel) ?_
  exact W.vret hx hb hr (fun t ht hW => ⟨⟨sq_u [] [], rfl, trivial, pq_B.of ht hP9 hD9⟩, hS.F ht⟩) hS.2.2 dX2_next_129
def wq_X2_read_r1 : List Cond := [Cond.fieldLink RX2 28 "CodePress$Lexer" "text" "[B", Cond.methodLink RX2 44 Lib.Math.min.name, Cond.static Lib.Math.min.name, Cond.initialized "java/lang/Math", Cond.code Lib.Math.min.name Lib.Math.min.code 2 (some .int), Cond.fieldLink RX2 50 "CodePress$Lexer" "size" "I", Cond.fieldLink RX2 54 "CodePress$Lexer" "pos" "I", Cond.fieldLink RX2 57 "CodePress$Lexer" "kind" "I", Cond.code yX2_next cX2_next 1 none, Cond.fieldLink RX2 63 "CodePress$Lexer" "at" "I", Cond.methodLink RX2 60 yX2_next, Cond.instanceMethod yX2_next, Cond.selects RX2 yX2_next yX2_next, Cond.initialized RX2, Cond.fieldLink RX2 15 "CodePress$Lexer" "kinds" "[I", Cond.fieldLink RX2 19 "CodePress$Lexer" "places" "[I", Cond.fieldLink RX2 22 "CodePress$Lexer" "numbers" "[I", Cond.fieldLink RX2 66 "CodePress$Lexer" "number" "I", Cond.fieldLink RX2 25 "CodePress$Lexer" "names" "[J", Cond.fieldLink RX2 69 "CodePress$Lexer" "name" "J"]
def wq_X2_read : List Cond := Cond.code yX2_read cX2_read 3 none :: (wq_X2_read_r1 ++ wsX20)
theorem iq_X2_read_X2 : ∀ w ∈ wsX20, w ∈ wq_X2_read := fun _ h => List.mem_cons_of_mem _ (List.mem_append_right _ h)
set_option maxRecDepth 20000 in
theorem gq_X2_read_X2_next_60_0 : GoodIn wq_X2_read (Cond.code yX2_next cX2_next 1 none :: wq_X2_next_r1) := goodIn_r _ [9, 7, 6, 10, 8] (by decide +kernel) (by decide +kernel)
set_option maxRecDepth 20000 in
theorem gq_X2_read_X2_next_60 : GoodIn wq_X2_read (wsV RX2 60 RX2 yX2_next wq_X2_next) := goodIn_app (goodIn_r _ [11, 12, 13, 14] (by decide +kernel) (by decide +kernel)) (goodIn_ca gq_X2_read_X2_next_60_0 (goodIn_sub iq_X2_read_X2 guX2))
set_option maxHeartbeats 4000000 in
set_option maxRecDepth 100000 in
theorem cq_X2_read (l : Launch) (dC : Nat → ClassId) (dI : Nat → Nat → Nat) (cB cI cJ cZ : ClassId) (fa0 : Nat → Nat) (sz : Nat) : Met l yX2_read wq_X2_read ({ frames := 1, cells := 0, slots := 0, locals := 21 }) (va_Pc [.ref (fa0 11), .int 0] (pq_W (dC, dI) vwCl (tyQ cB cI cJ cZ) [((fa0 11), .inr (2, [.ref (fa0 0), .ref (fa0 32), .ref (fa0 12), .ref (fa0 13), .ref (fa0 14), .ref (fa0 15), .int 0, .int 0, .int 0, .int 0, .int 0, .long 0])), ((fa0 0), .inl (cB, 3000, .inl (fun _ => 0))), ((fa0 12), .inl (cI, 801, .inl (fun _ => 0))), ((fa0 13), .inl (cI, 801, .inl (fun _ => 0))), ((fa0 14), .inl (cI, 801, .inl (fun _ => 0))), ((fa0 15), .inl (cJ, 801, .inr (.inl (fun _ => 0))))] sz)) (va_Qv (fun (_ : SQ) => True) (fun u => pq_B (dC, dI) vwCl [((fa0 0), .inl (cB, 3000, .inl (fun _ => 0))), ((fa0 12), .inl (cI, 801, .inl (upd (fun _ => 0) 0 260))), ((fa0 13), .inl (cI, 801, .inl (upd (fun _ => 0) 0 0))), ((fa0 14), .inl (cI, 801, .inl (upd (fun _ => 0) 0 0))), ((fa0 15), .inl (cJ, 801, .inr (.inl (vp_updL (fun _ => 0) 0 0)))), ((fa0 11), .inr (2, [.ref (fa0 0), .ref (fa0 32), .ref (fa0 12), .ref (fa0 13), .ref (fa0 14), .ref (fa0 15), .int 0, .int 0, .int 260, .int 0, .int 0, .long 0]))] (va_A [((fa0 11), .inr (2, [.ref (fa0 0), .ref (fa0 32), .ref (fa0 12), .ref (fa0 13), .ref (fa0 14), .ref (fa0 15), .int 0, .int 0, .int 0, .int 0, .int 0, .long 0])), ((fa0 0), .inl (cB, 3000, .inl (fun _ => 0))), ((fa0 12), .inl (cI, 801, .inl (fun _ => 0))), ((fa0 13), .inl (cI, 801, .inl (fun _ => 0))), ((fa0 14), .inl (cI, 801, .inl (fun _ => 0))), ((fa0 15), .inl (cJ, 801, .inr (.inl (fun _ => 0))))] sz)) (va_A [((fa0 11), .inr (2, [.ref (fa0 0), .ref (fa0 32), .ref (fa0 12), .ref (fa0 13), .ref (fa0 14), .ref (fa0 15), .int 0, .int 0, .int 0, .int 0, .int 0, .long 0])), ((fa0 0), .inl (cB, 3000, .inl (fun _ => 0))), ((fa0 12), .inl (cI, 801, .inl (fun _ => 0))), ((fa0 13), .inl (cI, 801, .inl (fun _ => 0))), ((fa0 14), .inl (cI, 801, .inl (fun _ => 0))), ((fa0 15), .inl (cJ, 801, .inr (.inl (fun _ => 0))))] sz)) 0 0 (va_A [((fa0 11), .inr (2, [.ref (fa0 0), .ref (fa0 32), .ref (fa0 12), .ref (fa0 13), .ref (fa0 14), .ref (fa0 15), .int 0, .int 0, .int 0, .int 0, .int 0, .long 0])), ((fa0 0), .inl (cB, 3000, .inl (fun _ => 0))), ((fa0 12), .inl (cI, 801, .inl (fun _ => 0))), ((fa0 13), .inl (cI, 801, .inl (fun _ => 0))), ((fa0 14), .inl (cI, 801, .inl (fun _ => 0))), ((fa0 15), .inl (cJ, 801, .inr (.inl (fun _ => 0))))] sz) := by
  refine Met.ofW (cc := cX2_read) (maxL := 3) (ret := none) (by decide) rfl ?_
  intro p e s m args below meth c s₁ B hml hv
  obtain ⟨rfl, hsz, hP, hK, hD0⟩ := hv
  have hx := B.exec
  have hb := B.bytes
  have hr := B.returns
  have hts := atoms_spec (ws := wq_X2_read) B.pre
  have hown : s.vm.findClass RX2 = some m.cls := findClass_of_methodNamed B.named
  have hlocks := B.notSynchronized
  subst hsz
  have hD := hD0.self (sz := s.heap.size)
  generalize hAe : va_A [((fa0 11), .inr (2, [.ref (fa0 0), .ref (fa0 32), .ref (fa0 12), .ref (fa0 13), .ref (fa0 14), .ref (fa0 15), .int 0, .int 0, .int 0, .int 0, .int 0, .long 0])), ((fa0 0), .inl (cB, 3000, .inl (fun _ => 0))), ((fa0 12), .inl (cI, 801, .inl (fun _ => 0))), ((fa0 13), .inl (cI, 801, .inl (fun _ => 0))), ((fa0 14), .inl (cI, 801, .inl (fun _ => 0))), ((fa0 15), .inl (cJ, 801, .inr (.inl (fun _ => 0))))] s.heap.size = A at hD ⊢
  have hA : ∀ q : Nat, s.heap.size ≤ q → A q := fun q h => by rw [← hAe]; exact Or.inr h
  have hS : va_S A s.heap s.heap [] := va_S.rf
  have hP : va_P (dC, dI) vwCl [((fa0 11), .inr (2, [.ref (fa0 0), .ref (fa0 32), .ref (fa0 12), .ref (fa0 13), .ref (fa0 14), .ref (fa0 15), .int 0, .int 0, .int 0, .int 0, .int 0, .long 0])), ((fa0 0), .inl (cB, 3000, .inl (fun _ => 0))), ((fa0 12), .inl (cI, 801, .inl (fun _ => 0))), ((fa0 13), .inl (cI, 801, .inl (fun _ => 0))), ((fa0 14), .inl (cI, 801, .inl (fun _ => 0))), ((fa0 15), .inl (cJ, 801, .inr (.inl (fun _ => 0))))] s.heap := hP
  obtain ⟨H, hH⟩ : ∃ H, H = s.heap := ⟨_, rfl⟩
  rw [← hH] at hP
  have hS : va_S A s.heap H [] := by rw [hH]; exact hS
  have hl := lv_entry ([.ref (fa0 11), .int 0]) (n := 3) (Nat.le_of_ble_eq_true rfl)
  rw [lg_entry_eq]
  generalize (lg_sl ([.ref (fa0 11), .int 0]) ++ List.replicate (3 - (lg_sl ([.ref (fa0 11), .int 0])).length) Slot.unset).toArray = ls at hl ⊢
  have hl : lv_has ls 3 [(0, .ref (fa0 11)), (1, .int 0)] := hl
  refine pq_heap hH ?_
  refine lv_aload_n hx hb dX2_read_0 rfl (lv_at hl 0 rfl) ?_
  refine lv_iload_n hx hb dX2_read_1 rfl (lv_at hl 1 rfl) ?_
  refine lv_aload_n hx hb dX2_read_2 rfl (lv_at hl 0 rfl) ?_
  refine va_get (D := (dC, dI)) (ci := 2) (v := .ref (fa0 0)) (C := RX2) (T := TX2) (N := 12) hx hb hts iq_X2_read_X2 hown hK hP 0 rfl rfl 0 (by decide) (hts (Cond.fieldLink RX2 28 "CodePress$Lexer" "text" "[B") (List.mem_of_getElem? (i := 1) rfl)) (fun _ h9 => h9) rfl dX2_read_3 ?_
  refine va_alen (v := 3000) (ty := .byte) hx hb hK hP 1 0 rfl rfl (by decide) dX2_read_6 ?_
  refine va_mmin hx hb (by rw [hml]; exact hl.1.symm) hown (hts (Cond.methodLink RX2 44 Lib.Math.min.name) (List.mem_of_getElem? (i := 2) rfl)) (hts (Cond.static Lib.Math.min.name) (List.mem_of_getElem? (i := 3) rfl)) (hts (Cond.initialized "java/lang/Math") (List.mem_of_getElem? (i := 4) rfl)) (hts (Cond.code Lib.Math.min.name Lib.Math.min.code 2 (some .int)) (List.mem_of_getElem? (i := 5) rfl)) (Nat.le_of_ble_eq_true rfl) (Nat.le_of_ble_eq_true rfl) (by decide +kernel) (by decide +kernel) dX2_read_7 ?_
  refine lv_topi (fun x1 ex1 => ?_)
  obtain rfl : x1 = 0 := ex1.trans (by decide)
  refine va_put (D := (dC, dI)) (ci := 2) (v := .int 0) (ty := .int) (C := RX2) (T := TX2) (N := 12) hx hb hts iq_X2_read_X2 tyX2 tyX2_ok nmX2 hown hK hP hD hS 0 rfl rfl 6 (by decide) (hts (Cond.fieldLink RX2 50 "CodePress$Lexer" "size" "I") (List.mem_of_getElem? (i := 6) rfl)) (fun _ h9 => h9) rfl (by decide +kernel) rfl rfl (Nat.le_of_ble_eq_true rfl) dX2_read_10 (fun H locs hP hD hS => ?_)
  have hR9 : pq_R (dC, dI) vwCl A [((fa0 11), .inr (2, [.ref (fa0 0), .ref (fa0 32), .ref (fa0 12), .ref (fa0 13), .ref (fa0 14), .ref (fa0 15), .int 0, .int 0, .int 0, .int 0, .int 0, .long 0])), ((fa0 0), .inl (cB, 3000, .inl (fun _ => 0))), ((fa0 12), .inl (cI, 801, .inl (fun _ => 0))), ((fa0 13), .inl (cI, 801, .inl (fun _ => 0))), ((fa0 14), .inl (cI, 801, .inl (fun _ => 0))), ((fa0 15), .inl (cJ, 801, .inr (.inl (fun _ => 0))))] H := ⟨hP, hD⟩
  have hP := hR9.1
  have hD := hR9.2
  refine lv_aload_n hx hb dX2_read_13 rfl (lv_at hl 0 rfl) ?_
  refine lv_iconst (v := 0) hx hb dX2_read_14 (by decide) ?_
  refine va_put (D := (dC, dI)) (ci := 2) (v := .int 0) (ty := .int) (C := RX2) (T := TX2) (N := 12) hx hb hts iq_X2_read_X2 tyX2 tyX2_ok nmX2 hown hK hP hD hS 0 rfl rfl 7 (by decide) (hts (Cond.fieldLink RX2 54 "CodePress$Lexer" "pos" "I") (List.mem_of_getElem? (i := 7) rfl)) (fun _ h9 => h9) rfl (by decide +kernel) rfl rfl (Nat.le_of_ble_eq_true rfl) dX2_read_15 (fun H locs hP hD hS => ?_)
  have hR9 : pq_R (dC, dI) vwCl A [((fa0 11), .inr (2, [.ref (fa0 0), .ref (fa0 32), .ref (fa0 12), .ref (fa0 13), .ref (fa0 14), .ref (fa0 15), .int 0, .int 0, .int 0, .int 0, .int 0, .long 0])), ((fa0 0), .inl (cB, 3000, .inl (fun _ => 0))), ((fa0 12), .inl (cI, 801, .inl (fun _ => 0))), ((fa0 13), .inl (cI, 801, .inl (fun _ => 0))), ((fa0 14), .inl (cI, 801, .inl (fun _ => 0))), ((fa0 15), .inl (cJ, 801, .inr (.inl (fun _ => 0))))] H := ⟨hP, hD⟩
  have hP := hR9.1
  have hD := hR9.2
  refine lv_aload_n hx hb dX2_read_18 rfl (lv_at hl 0 rfl) ?_
  refine lv_sipush (v := 261) hx hb dX2_read_19 (by decide) ?_
  refine va_put (D := (dC, dI)) (ci := 2) (v := .int 261) (ty := .int) (C := RX2) (T := TX2) (N := 12) hx hb hts iq_X2_read_X2 tyX2 tyX2_ok nmX2 hown hK hP hD hS 0 rfl rfl 8 (by decide) (hts (Cond.fieldLink RX2 57 "CodePress$Lexer" "kind" "I") (List.mem_of_getElem? (i := 8) rfl)) (fun _ h9 => h9) rfl (by decide +kernel) rfl rfl (Nat.le_of_ble_eq_true rfl) dX2_read_22 (fun H locs hP hD hS => ?_)
  have hR9 : pq_R (dC, dI) vwCl A [((fa0 11), .inr (2, [.ref (fa0 0), .ref (fa0 32), .ref (fa0 12), .ref (fa0 13), .ref (fa0 14), .ref (fa0 15), .int 0, .int 0, .int 261, .int 0, .int 0, .long 0])), ((fa0 0), .inl (cB, 3000, .inl (fun _ => 0))), ((fa0 12), .inl (cI, 801, .inl (fun _ => 0))), ((fa0 13), .inl (cI, 801, .inl (fun _ => 0))), ((fa0 14), .inl (cI, 801, .inl (fun _ => 0))), ((fa0 15), .inl (cJ, 801, .inr (.inl (fun _ => 0))))] H := ⟨hP, hD⟩
  have hP := hR9.1
  have hD := hR9.2
  refine lv_iconst (v := 0) hx hb dX2_read_25 (by decide) ?_
  refine lv_istore_n (lv' := [(2, .int 0), (0, .ref (fa0 11)), (1, .int 0)]) hx hb dX2_read_26 rfl hl (by decide) rfl (fun ls hl => ?_)
  refine lv_iload_n hx hb dX2_read_27 rfl (lv_at hl 0 rfl) ?_
  refine lv_sipush (v := 800) hx hb dX2_read_28 (by decide) ?_
  refine lv_icmp_gt (tgt := 94) hx hb dX2_read_31 (by decide) (fun c_ => absurd c_ (by decide)) (fun _ => ?_)
  refine lv_aload_n hx hb dX2_read_34 rfl (lv_at hl 1 rfl) ?_
  refine va_get (D := (dC, dI)) (ci := 2) (v := .int 261) (C := RX2) (T := TX2) (N := 12) hx hb hts iq_X2_read_X2 hown hK hP 0 rfl rfl 8 (by decide) (hts (Cond.fieldLink RX2 57 "CodePress$Lexer" "kind" "I") (List.mem_of_getElem? (i := 8) rfl)) (fun _ h9 => h9) rfl dX2_read_35 ?_
  refine lv_sipush (v := 260) hx hb dX2_read_38 (by decide) ?_
  refine lv_icmp_eq (tgt := 94) hx hb dX2_read_41 (by decide) (fun c_ => absurd c_ (by decide)) (fun _ => ?_)
  refine lv_aload_n hx hb dX2_read_44 rfl (lv_at hl 1 rfl) ?_
  refine pq_cv (wr := [((fa0 0), .inl (cB, 3000, .inl (fun _ => 0))), ((fa0 12), .inl (cI, 801, .inl (fun _ => 0))), ((fa0 13), .inl (cI, 801, .inl (fun _ => 0))), ((fa0 14), .inl (cI, 801, .inl (fun _ => 0))), ((fa0 15), .inl (cJ, 801, .inr (.inl (fun _ => 0))))]) (W1 := (fun u => [((fa0 11), .inr (2, [.ref (fa0 0), .ref (fa0 32), .ref (fa0 12), .ref (fa0 13), .ref (fa0 14), .ref (fa0 15), .int 0, .int 0, .int 260, .int 0, .int 0, .long 0]))])) (va_runV (As := []) (rest := []) ⟨hx, hb, hml, hown, hts⟩ (cq_X2_next l dC dI cB cI cJ cZ fa0 H.size) (cwV 0 hts gq_X2_read_X2_next_60 rfl rfl rfl (by decide +kernel) ⟨(by decide +kernel), (by decide +kernel)⟩) ⟨pq_blind, va_recv hK hP (ci := 2) (q0 := 0) rfl rfl, pq_pre hK hP hD [0] rfl rfl⟩ rfl rfl hl.1 rfl (lv_room (Nat.le_of_ble_eq_true rfl)) dX2_read_45 ⟨(by decide +kernel), (by decide +kernel)⟩) hP hD hS hA [0] [1, 2, 3, 4, 5] rfl rfl rfl (by decide) (fun u2 H locs hw hP hD hS => ?_)
  have hR9 : pq_R (dC, dI) vwCl A [((fa0 0), .inl (cB, 3000, .inl (fun _ => 0))), ((fa0 12), .inl (cI, 801, .inl (fun _ => 0))), ((fa0 13), .inl (cI, 801, .inl (fun _ => 0))), ((fa0 14), .inl (cI, 801, .inl (fun _ => 0))), ((fa0 15), .inl (cJ, 801, .inr (.inl (fun _ => 0)))), ((fa0 11), .inr (2, [.ref (fa0 0), .ref (fa0 32), .ref (fa0 12), .ref (fa0 13), .ref (fa0 14), .ref (fa0 15), .int 0, .int 0, .int 260, .int 0, .int 0, .long 0]))] H := ⟨hP, hD⟩
  have hP := hR9.1
  have hD := hR9.2
  refine W.widen (k := 0) (n := 0) (by decide +kernel) (by decide +kernel) ?_
  refine lv_aload_n hx hb dX2_read_48 rfl (lv_at hl 1 rfl) ?_
  refine va_get (D := (dC, dI)) (ci := 2) (v := .ref (fa0 12)) (C := RX2) (T := TX2) (N := 12) hx hb hts iq_X2_read_X2 hown hK hP 5 rfl rfl 2 (by decide) (hts (Cond.fieldLink RX2 15 "CodePress$Lexer" "kinds" "[I") (List.mem_of_getElem? (i := 15) rfl)) (fun _ h9 => h9) rfl dX2_read_49 ?_
  refine lv_iload_n hx hb dX2_read_52 rfl (lv_at hl 0 rfl) ?_
  refine lv_aload_n hx hb dX2_read_53 rfl (lv_at hl 1 rfl) ?_
  refine va_get (D := (dC, dI)) (ci := 2) (v := .int 260) (C := RX2) (T := TX2) (N := 12) hx hb hts iq_X2_read_X2 hown hK hP 5 rfl rfl 8 (by decide) (hts (Cond.fieldLink RX2 57 "CodePress$Lexer" "kind" "I") (List.mem_of_getElem? (i := 8) rfl)) (fun _ h9 => h9) rfl dX2_read_54 ?_
  refine va_iast hx hb hK hP hD hS 1 1 rfl rfl (pq_in (by decide)) dX2_read_57 (fun H locs hP hD hS => ?_)
  have hR9 : pq_R (dC, dI) vwCl A [((fa0 0), .inl (cB, 3000, .inl (fun _ => 0))), ((fa0 12), .inl (cI, 801, .inl (upd (fun _ => 0) 0 260))), ((fa0 13), .inl (cI, 801, .inl (fun _ => 0))), ((fa0 14), .inl (cI, 801, .inl (fun _ => 0))), ((fa0 15), .inl (cJ, 801, .inr (.inl (fun _ => 0)))), ((fa0 11), .inr (2, [.ref (fa0 0), .ref (fa0 32), .ref (fa0 12), .ref (fa0 13), .ref (fa0 14), .ref (fa0 15), .int 0, .int 0, .int 260, .int 0, .int 0, .long 0]))] H := ⟨hP, hD⟩
  have hP := hR9.1
  have hD := hR9.2
  refine lv_aload_n hx hb dX2_read_58 rfl (lv_at hl 1 rfl) ?_
  refine va_get (D := (dC, dI)) (ci := 2) (v := .ref (fa0 13)) (C := RX2) (T := TX2) (N := 12) hx hb hts iq_X2_read_X2 hown hK hP 5 rfl rfl 3 (by decide) (hts (Cond.fieldLink RX2 19 "CodePress$Lexer" "places" "[I") (List.mem_of_getElem? (i := 16) rfl)) (fun _ h9 => h9) rfl dX2_read_59 ?_
  refine lv_iload_n hx hb dX2_read_62 rfl (lv_at hl 0 rfl) ?_
  refine lv_aload_n hx hb dX2_read_63 rfl (lv_at hl 1 rfl) ?_
  refine va_get (D := (dC, dI)) (ci := 2) (v := .int 0) (C := RX2) (T := TX2) (N := 12) hx hb hts iq_X2_read_X2 hown hK hP 5 rfl rfl 9 (by decide) (hts (Cond.fieldLink RX2 63 "CodePress$Lexer" "at" "I") (List.mem_of_getElem? (i := 10) rfl)) (fun _ h9 => h9) rfl dX2_read_64 ?_
  refine va_iast hx hb hK hP hD hS 2 1 rfl rfl (pq_in (by decide)) dX2_read_67 (fun H locs hP hD hS => ?_)
  have hR9 : pq_R (dC, dI) vwCl A [((fa0 0), .inl (cB, 3000, .inl (fun _ => 0))), ((fa0 12), .inl (cI, 801, .inl (upd (fun _ => 0) 0 260))), ((fa0 13), .inl (cI, 801, .inl (upd (fun _ => 0) 0 0))), ((fa0 14), .inl (cI, 801, .inl (fun _ => 0))), ((fa0 15), .inl (cJ, 801, .inr (.inl (fun _ => 0)))), ((fa0 11), .inr (2, [.ref (fa0 0), .ref (fa0 32), .ref (fa0 12), .ref (fa0 13), .ref (fa0 14), .ref (fa0 15), .int 0, .int 0, .int 260, .int 0, .int 0, .long 0]))] H := ⟨hP, hD⟩
  have hP := hR9.1
  have hD := hR9.2
  refine lv_aload_n hx hb dX2_read_68 rfl (lv_at hl 1 rfl) ?_
  refine va_get (D := (dC, dI)) (ci := 2) (v := .ref (fa0 14)) (C := RX2) (T := TX2) (N := 12) hx hb hts iq_X2_read_X2 hown hK hP 5 rfl rfl 4 (by decide) (hts (Cond.fieldLink RX2 22 "CodePress$Lexer" "numbers" "[I") (List.mem_of_getElem? (i := 17) rfl)) (fun _ h9 => h9) rfl dX2_read_69 ?_
  refine lv_iload_n hx hb dX2_read_72 rfl (lv_at hl 0 rfl) ?_
  refine lv_aload_n hx hb dX2_read_73 rfl (lv_at hl 1 rfl) ?_
  refine va_get (D := (dC, dI)) (ci := 2) (v := .int 0) (C := RX2) (T := TX2) (N := 12) hx hb hts iq_X2_read_X2 hown hK hP 5 rfl rfl 10 (by decide) (hts (Cond.fieldLink RX2 66 "CodePress$Lexer" "number" "I") (List.mem_of_getElem? (i := 18) rfl)) (fun _ h9 => h9) rfl dX2_read_74 ?_
  refine va_iast hx hb hK hP hD hS 3 1 rfl rfl (pq_in (by decide)) dX2_read_77 (fun H locs hP hD hS => ?_)
  have hR9 : pq_R (dC, dI) vwCl A [((fa0 0), .inl (cB, 3000, .inl (fun _ => 0))), ((fa0 12), .inl (cI, 801, .inl (upd (fun _ => 0) 0 260))), ((fa0 13), .inl (cI, 801, .inl (upd (fun _ => 0) 0 0))), ((fa0 14), .inl (cI, 801, .inl (upd (fun _ => 0) 0 0))), ((fa0 15), .inl (cJ, 801, .inr (.inl (fun _ => 0)))), ((fa0 11), .inr (2, [.ref (fa0 0), .ref (fa0 32), .ref (fa0 12), .ref (fa0 13), .ref (fa0 14), .ref (fa0 15), .int 0, .int 0, .int 260, .int 0, .int 0, .long 0]))] H := ⟨hP, hD⟩
  have hP := hR9.1
  have hD := hR9.2
  refine lv_aload_n hx hb dX2_read_78 rfl (lv_at hl 1 rfl) ?_
  refine va_get (D := (dC, dI)) (ci := 2) (v := .ref (fa0 15)) (C := RX2) (T := TX2) (N := 12) hx hb hts iq_X2_read_X2 hown hK hP 5 rfl rfl 5 (by decide) (hts (Cond.fieldLink RX2 25 "CodePress$Lexer" "names" "[J") (List.mem_of_getElem? (i := 19) rfl)) (fun _ h9 => h9) rfl dX2_read_79 ?_
  refine lv_iload_n hx hb dX2_read_82 rfl (lv_at hl 0 rfl) ?_
  refine lv_aload_n hx hb dX2_read_83 rfl (lv_at hl 1 rfl) ?_
  refine va_get (D := (dC, dI)) (ci := 2) (v := .long 0) (C := RX2) (T := TX2) (N := 12) hx hb hts iq_X2_read_X2 hown hK hP 5 rfl rfl 11 (by decide) (hts (Cond.fieldLink RX2 69 "CodePress$Lexer" "name" "J") (List.mem_of_getElem? (i := 20) rfl)) (fun _ h9 => h9) rfl dX2_read_84 ?_
  refine va_last hx hb hK hP hD hS 4 2 rfl rfl (pq_in (by decide)) dX2_read_87 (fun H locs hP hD hS => ?_)
  have hR9 : pq_R (dC, dI) vwCl A [((fa0 0), .inl (cB, 3000, .inl (fun _ => 0))), ((fa0 12), .inl (cI, 801, .inl (upd (fun _ => 0) 0 260))), ((fa0 13), .inl (cI, 801, .inl (upd (fun _ => 0) 0 0))), ((fa0 14), .inl (cI, 801, .inl (upd (fun _ => 0) 0 0))), ((fa0 15), .inl (cJ, 801, .inr (.inl (vp_updL (fun _ => 0) 0 0)))), ((fa0 11), .inr (2, [.ref (fa0 0), .ref (fa0 32), .ref (fa0 12), .ref (fa0 13), .ref (fa0 14), .ref (fa0 15), .int 0, .int 0, .int 260, .int 0, .int 0, .long 0]))] H := ⟨hP, hD⟩
  have hP := hR9.1
  have hD := hR9.2
  refine lv_iinc (v := 1) (lv' := [(2, .int 1), (0, .ref (fa0 11)), (1, .int 0)]) hx hb dX2_read_88 hl (k := 0) rfl (by decide) (by decide) rfl (fun ls hl => ?_)
  refine lv_goto (tgt := 27) hx hb dX2_read_91 (by decide) ?_
  refine lv_iload_n hx hb dX2_read_27 rfl (lv_at hl 0 rfl) ?_
  refine lv_sipush (v := 800) hx hb dX2_read_28 (by decide) ?_
  refine lv_icmp_gt (tgt := 94) hx hb dX2_read_31 (by decide) (fun c_ => absurd c_ (by decide)) (fun _ => ?_)
  refine lv_aload_n hx hb dX2_read_34 rfl (lv_at hl 1 rfl) ?_
  refine va_get (D := (dC, dI)) (ci := 2) (v := .int 260) (C := RX2) (T := TX2) (N := 12) hx hb hts iq_X2_read_X2 hown hK hP 5 rfl rfl 8 (by decide) (hts (Cond.fieldLink RX2 57 "CodePress$Lexer" "kind" "I") (List.mem_of_getElem? (i := 8) rfl)) (fun _ h9 => h9) rfl dX2_read_35 ?_
  refine lv_sipush (v := 260) hx hb dX2_read_38 (by decide) ?_
  refine lv_icmp_eq (tgt := 94) hx hb dX2_read_41 (by decide) (fun _ => ?_) (fun c_ => absurd (by decide) c_)
  have hP9 := pq_P.pick (wc := [((fa0 0), .inl (cB, 3000, .inl (fun _ => 0))), ((fa0 12), .inl (cI, 801, .inl (upd (fun _ => 0) 0 260))), ((fa0 13), .inl (cI, 801, .inl (upd (fun _ => 0) 0 0))), ((fa0 14), .inl (cI, 801, .inl (upd (fun _ => 0) 0 0))), ((fa0 15), .inl (cJ, 801, .inr (.inl (vp_updL (fun _ => 0) 0 0)))), ((fa0 11), .inr (2, [.ref (fa0 0), .ref (fa0 32), .ref (fa0 12), .ref (fa0 13), .ref (fa0 14), .ref (fa0 15), .int 0, .int 0, .int 260, .int 0, .int 0, .long 0]))]) hP [0, 1, 2, 3, 4, 5] rfl
  have hD9 := hD.sub (ws' := [((fa0 0), .inl (cB, 3000, .inl (fun _ => 0))), ((fa0 12), .inl (cI, 801, .inl (upd (fun _ => 0) 0 260))), ((fa0 13), .inl (cI, 801, .inl (upd (fun _ => 0) 0 0))), ((fa0 14), .inl (cI, 801, .inl (upd (fun _ => 0) 0 0))), ((fa0 15), .inl (cJ, 801, .inr (.inl (vp_updL (fun _ => 0) 0 0)))), ((fa0 11), .inr (2, [.ref (fa0 0), .ref (fa0 32), .ref (fa0 12), .ref (fa0 13), .ref (fa0 14), .ref (fa0 15), .int 0, .int 0, .int 260, .int 0, .int 0, .long 0]))]) [0, 1, 2, 3, 4, 5] (by decide) rfl
  refine W.widen (k := 0) (n := 0) (by decide +kernel) (by decide +kernel) ?_
  exact W.vret hx hb hr (fun t ht hW => ⟨⟨sq_u [] [], rfl, trivial, pq_B.of ht hP9 hD9⟩, hS.F ht⟩) hS.2.2 dX2_read_94
def wq_X5_start_r1 : List Cond := [Cond.fieldLink RX5 49 "CodePress$Parser" "tokens" "I", Cond.fieldLink RX5 52 "CodePress$Parser" "open" "I", Cond.fieldLink RX5 55 "CodePress$Parser" "fault" "I", Cond.fieldLink RX5 58 "CodePress$Parser" "place" "I", Cond.fieldLink RX5 9 "CodePress$Parser" "lexer" "LCodePress$Lexer;", Cond.code yX2_read cX2_read 3 none, Cond.fieldLink RX2 28 "CodePress$Lexer" "text" "[B", Cond.methodLink RX2 44 Lib.Math.min.name, Cond.static Lib.Math.min.name, Cond.initialized "java/lang/Math", Cond.code Lib.Math.min.name Lib.Math.min.code 2 (some .int), Cond.fieldLink RX2 50 "CodePress$Lexer" "size" "I", Cond.fieldLink RX2 54 "CodePress$Lexer" "pos" "I", Cond.fieldLink RX2 57 "CodePress$Lexer" "kind" "I", Cond.code yX2_next cX2_next 1 none, Cond.fieldLink RX2 63 "CodePress$Lexer" "at" "I", Cond.methodLink RX2 60 yX2_next, Cond.instanceMethod yX2_next, Cond.selects RX2 yX2_next yX2_next, Cond.initialized RX2, Cond.fieldLink RX2 15 "CodePress$Lexer" "kinds" "[I", Cond.fieldLink RX2 19 "CodePress$Lexer" "places" "[I", Cond.fieldLink RX2 22 "CodePress$Lexer" "numbers" "[I", Cond.fieldLink RX2 66 "CodePress$Lexer" "number" "I"]
def wq_X5_start_r2 : List Cond := [Cond.fieldLink RX2 25 "CodePress$Lexer" "names" "[J", Cond.fieldLink RX2 69 "CodePress$Lexer" "name" "J", Cond.methodLink RX5 61 yX2_read, Cond.instanceMethod yX2_read, Cond.selects RX2 yX2_read yX2_read, Cond.fieldLink RX5 64 "CodePress$Lexer" "kinds" "[I", Cond.fieldLink RX5 27 "CodePress$Parser" "kind" "I", Cond.fieldLink RX5 68 "CodePress$Lexer" "places" "[I", Cond.fieldLink RX5 71 "CodePress$Parser" "at" "I"]
def wq_X5_start : List Cond := Cond.code yX5_start cX5_start 2 none :: ((wq_X5_start_r1 ++ wq_X5_start_r2) ++ wsX50 ++ wsX20)
theorem iq_X5_start_X5 : ∀ w ∈ wsX50, w ∈ wq_X5_start := fun _ h => List.mem_cons_of_mem _ (List.mem_append_left _ (List.mem_append_right _ h))
theorem iq_X5_start_X2 : ∀ w ∈ wsX20, w ∈ wq_X5_start := fun _ h => List.mem_cons_of_mem _ (List.mem_append_right _ h)
set_option maxRecDepth 20000 in
theorem gq_X5_start_X2_read_61_0 : GoodIn wq_X5_start (Cond.code yX2_read cX2_read 3 none :: wq_X2_read_r1) := goodIn_r _ [6, 7, 8, 9, 10, 11, 12, 13, 14, 15, 16, 17, 18, 19, 20, 21, 22, 23, 24, 25, 26] (by decide +kernel) (by decide +kernel)
set_option maxRecDepth 20000 in
theorem gq_X5_start_X2_read_61 : GoodIn wq_X5_start (wsV RX5 61 RX2 yX2_read wq_X2_read) := goodIn_app (goodIn_r _ [27, 28, 29, 20] (by decide +kernel) (by decide +kernel)) (goodIn_ca gq_X5_start_X2_read_61_0 (goodIn_sub iq_X5_start_X2 guX2))
set_option maxHeartbeats 4000000 in
set_option maxRecDepth 100000 in
theorem cq_X5_start (l : Launch) (dC : Nat → ClassId) (dI : Nat → Nat → Nat) (cB cI cJ cZ : ClassId) (fa0 : Nat → Nat) (sz : Nat) : Met l yX5_start wq_X5_start ({ frames := 2, cells := 0, slots := 0, locals := 43 }) (va_Pc [.ref (fa0 16), .int 0] (pq_W (dC, dI) vwCl (tyQ cB cI cJ cZ) [((fa0 16), .inr (5, [.ref (fa0 11), .ref (fa0 2), .ref (fa0 1), .int 0, .int 0, .int 0, .int 0, .int 0, .int 0, .long 0, .int 0])), ((fa0 11), .inr (2, [.ref (fa0 0), .ref (fa0 32), .ref (fa0 12), .ref (fa0 13), .ref (fa0 14), .ref (fa0 15), .int 0, .int 0, .int 0, .int 0, .int 0, .long 0])), ((fa0 0), .inl (cB, 3000, .inl (fun _ => 0))), ((fa0 12), .inl (cI, 801, .inl (fun _ => 0))), ((fa0 13), .inl (cI, 801, .inl (fun _ => 0))), ((fa0 14), .inl (cI, 801, .inl (fun _ => 0))), ((fa0 15), .inl (cJ, 801, .inr (.inl (fun _ => 0))))] sz)) (va_Qv (fun (_ : SQ) => True) (fun u => pq_B (dC, dI) vwCl [((fa0 16), .inr (5, [.ref (fa0 11), .ref (fa0 2), .ref (fa0 1), .int 0, .int 260, .int 0, .int 0, .int 0, .int (-1), .long 0, .int 0])), ((fa0 0), .inl (cB, 3000, .inl (fun _ => 0))), ((fa0 12), .inl (cI, 801, .inl (upd (fun _ => 0) 0 260))), ((fa0 13), .inl (cI, 801, .inl (upd (fun _ => 0) 0 0))), ((fa0 14), .inl (cI, 801, .inl (upd (fun _ => 0) 0 0))), ((fa0 15), .inl (cJ, 801, .inr (.inl (vp_updL (fun _ => 0) 0 0)))), ((fa0 11), .inr (2, [.ref (fa0 0), .ref (fa0 32), .ref (fa0 12), .ref (fa0 13), .ref (fa0 14), .ref (fa0 15), .int 0, .int 0, .int 260, .int 0, .int 0, .long 0]))] (va_A [((fa0 16), .inr (5, [.ref (fa0 11), .ref (fa0 2), .ref (fa0 1), .int 0, .int 0, .int 0, .int 0, .int 0, .int 0, .long 0, .int 0])), ((fa0 11), .inr (2, [.ref (fa0 0), .ref (fa0 32), .ref (fa0 12), .ref (fa0 13), .ref (fa0 14), .ref (fa0 15), .int 0, .int 0, .int 0, .int 0, .int 0, .long 0])), ((fa0 0), .inl (cB, 3000, .inl (fun _ => 0))), ((fa0 12), .inl (cI, 801, .inl (fun _ => 0))), ((fa0 13), .inl (cI, 801, .inl (fun _ => 0))), ((fa0 14), .inl (cI, 801, .inl (fun _ => 0))), ((fa0 15), .inl (cJ, 801, .inr (.inl (fun _ => 0))))] sz)) (va_A [((fa0 16), .inr (5, [.ref (fa0 11), .ref (fa0 2), .ref (fa0 1), .int 0, .int 0, .int 0, .int 0, .int 0, .int 0, .long 0, .int 0])), ((fa0 11), .inr (2, [.ref (fa0 0), .ref (fa0 32), .ref (fa0 12), .ref (fa0 13), .ref (fa0 14), .ref (fa0 15), .int 0, .int 0, .int 0, .int 0, .int 0, .long 0])), ((fa0 0), .inl (cB, 3000, .inl (fun _ => 0))), ((fa0 12), .inl (cI, 801, .inl (fun _ => 0))), ((fa0 13), .inl (cI, 801, .inl (fun _ => 0))), ((fa0 14), .inl (cI, 801, .inl (fun _ => 0))), ((fa0 15), .inl (cJ, 801, .inr (.inl (fun _ => 0))))] sz)) 0 0 (va_A [((fa0 16), .inr (5, [.ref (fa0 11), .ref (fa0 2), .ref (fa0 1), .int 0, .int 0, .int 0, .int 0, .int 0, .int 0, .long 0, .int 0])), ((fa0 11), .inr (2, [.ref (fa0 0), .ref (fa0 32), .ref (fa0 12), .ref (fa0 13), .ref (fa0 14), .ref (fa0 15), .int 0, .int 0, .int 0, .int 0, .int 0, .long 0])), ((fa0 0), .inl (cB, 3000, .inl (fun _ => 0))), ((fa0 12), .inl (cI, 801, .inl (fun _ => 0))), ((fa0 13), .inl (cI, 801, .inl (fun _ => 0))), ((fa0 14), .inl (cI, 801, .inl (fun _ => 0))), ((fa0 15), .inl (cJ, 801, .inr (.inl (fun _ => 0))))] sz) := by
  refine Met.ofW (cc := cX5_start) (maxL := 2) (ret := none) (by decide) rfl ?_
  intro p e s m args below meth c s₁ B hml hv
  obtain ⟨rfl, hsz, hP, hK, hD0⟩ := hv
  have hx := B.exec
  have hb := B.bytes
  have hr := B.returns
  have hts := atoms_spec (ws := wq_X5_start) B.pre
  have hown : s.vm.findClass RX5 = some m.cls := findClass_of_methodNamed B.named
  have hlocks := B.notSynchronized
  subst hsz
  have hD := hD0.self (sz := s.heap.size)
  generalize hAe : va_A [((fa0 16), .inr (5, [.ref (fa0 11), .ref (fa0 2), .ref (fa0 1), .int 0, .int 0, .int 0, .int 0, .int 0, .int 0, .long 0, .int 0])), ((fa0 11), .inr (2, [.ref (fa0 0), .ref (fa0 32), .ref (fa0 12), .ref (fa0 13), .ref (fa0 14), .ref (fa0 15), .int 0, .int 0, .int 0, .int 0, .int 0, .long 0])), ((fa0 0), .inl (cB, 3000, .inl (fun _ => 0))), ((fa0 12), .inl (cI, 801, .inl (fun _ => 0))), ((fa0 13), .inl (cI, 801, .inl (fun _ => 0))), ((fa0 14), .inl (cI, 801, .inl (fun _ => 0))), ((fa0 15), .inl (cJ, 801, .inr (.inl (fun _ => 0))))] s.heap.size = A at hD ⊢
  have hA : ∀ q : Nat, s.heap.size ≤ q → A q := fun q h => by rw [← hAe]; exact Or.inr h
  have hS : va_S A s.heap s.heap [] := va_S.rf
  have hP : va_P (dC, dI) vwCl [((fa0 16), .inr (5, [.ref (fa0 11), .ref (fa0 2), .ref (fa0 1), .int 0, .int 0, .int 0, .int 0, .int 0, .int 0, .long 0, .int 0])), ((fa0 11), .inr (2, [.ref (fa0 0), .ref (fa0 32), .ref (fa0 12), .ref (fa0 13), .ref (fa0 14), .ref (fa0 15), .int 0, .int 0, .int 0, .int 0, .int 0, .long 0])), ((fa0 0), .inl (cB, 3000, .inl (fun _ => 0))), ((fa0 12), .inl (cI, 801, .inl (fun _ => 0))), ((fa0 13), .inl (cI, 801, .inl (fun _ => 0))), ((fa0 14), .inl (cI, 801, .inl (fun _ => 0))), ((fa0 15), .inl (cJ, 801, .inr (.inl (fun _ => 0))))] s.heap := hP
  obtain ⟨H, hH⟩ : ∃ H, H = s.heap := ⟨_, rfl⟩
  rw [← hH] at hP
  have hS : va_S A s.heap H [] := by rw [hH]; exact hS
  have hl := lv_entry ([.ref (fa0 16), .int 0]) (n := 2) (Nat.le_of_ble_eq_true rfl)
  rw [lg_entry_eq]
  generalize (lg_sl ([.ref (fa0 16), .int 0]) ++ List.replicate (2 - (lg_sl ([.ref (fa0 16), .int 0])).length) Slot.unset).toArray = ls at hl ⊢
  have hl : lv_has ls 2 [(0, .ref (fa0 16)), (1, .int 0)] := hl
  refine pq_heap hH ?_
  refine lv_aload_n hx hb dX5_start_0 rfl (lv_at hl 0 rfl) ?_
  refine lv_iconst (v := 0) hx hb dX5_start_1 (by decide) ?_
  refine va_put (D := (dC, dI)) (ci := 5) (v := .int 0) (ty := .int) (C := RX5) (T := TX5) (N := 11) hx hb hts iq_X5_start_X5 tyX5 tyX5_ok nmX5 hown hK hP hD hS 0 rfl rfl 3 (by decide) (hts (Cond.fieldLink RX5 49 "CodePress$Parser" "tokens" "I") (List.mem_of_getElem? (i := 1) rfl)) (fun _ h9 => h9) rfl (by decide +kernel) rfl rfl (Nat.le_of_ble_eq_true rfl) dX5_start_2 (fun H locs hP hD hS => ?_)
  have hR9 : pq_R (dC, dI) vwCl A [((fa0 16), .inr (5, [.ref (fa0 11), .ref (fa0 2), .ref (fa0 1), .int 0, .int 0, .int 0, .int 0, .int 0, .int 0, .long 0, .int 0])), ((fa0 11), .inr (2, [.ref (fa0 0), .ref (fa0 32), .ref (fa0 12), .ref (fa0 13), .ref (fa0 14), .ref (fa0 15), .int 0, .int 0, .int 0, .int 0, .int 0, .long 0])), ((fa0 0), .inl (cB, 3000, .inl (fun _ => 0))), ((fa0 12), .inl (cI, 801, .inl (fun _ => 0))), ((fa0 13), .inl (cI, 801, .inl (fun _ => 0))), ((fa0 14), .inl (cI, 801, .inl (fun _ => 0))), ((fa0 15), .inl (cJ, 801, .inr (.inl (fun _ => 0))))] H := ⟨hP, hD⟩
  have hP := hR9.1
  have hD := hR9.2
  refine lv_aload_n hx hb dX5_start_5 rfl (lv_at hl 0 rfl) ?_
  refine lv_iconst (v := 0) hx hb dX5_start_6 (by decide) ?_
  refine va_put (D := (dC, dI)) (ci := 5) (v := .int 0) (ty := .int) (C := RX5) (T := TX5) (N := 11) hx hb hts iq_X5_start_X5 tyX5 tyX5_ok nmX5 hown hK hP hD hS 0 rfl rfl 6 (by decide) (hts (Cond.fieldLink RX5 52 "CodePress$Parser" "open" "I") (List.mem_of_getElem? (i := 2) rfl)) (fun _ h9 => h9) rfl (by decide +kernel) rfl rfl (Nat.le_of_ble_eq_true rfl) dX5_start_7 (fun H locs hP hD hS => ?_)
  have hR9 : pq_R (dC, dI) vwCl A [((fa0 16), .inr (5, [.ref (fa0 11), .ref (fa0 2), .ref (fa0 1), .int 0, .int 0, .int 0, .int 0, .int 0, .int 0, .long 0, .int 0])), ((fa0 11), .inr (2, [.ref (fa0 0), .ref (fa0 32), .ref (fa0 12), .ref (fa0 13), .ref (fa0 14), .ref (fa0 15), .int 0, .int 0, .int 0, .int 0, .int 0, .long 0])), ((fa0 0), .inl (cB, 3000, .inl (fun _ => 0))), ((fa0 12), .inl (cI, 801, .inl (fun _ => 0))), ((fa0 13), .inl (cI, 801, .inl (fun _ => 0))), ((fa0 14), .inl (cI, 801, .inl (fun _ => 0))), ((fa0 15), .inl (cJ, 801, .inr (.inl (fun _ => 0))))] H := ⟨hP, hD⟩
  have hP := hR9.1
  have hD := hR9.2
  refine lv_aload_n hx hb dX5_start_10 rfl (lv_at hl 0 rfl) ?_
  refine lv_iconst (v := 0) hx hb dX5_start_11 (by decide) ?_
  refine va_put (D := (dC, dI)) (ci := 5) (v := .int 0) (ty := .int) (C := RX5) (T := TX5) (N := 11) hx hb hts iq_X5_start_X5 tyX5 tyX5_ok nmX5 hown hK hP hD hS 0 rfl rfl 7 (by decide) (hts (Cond.fieldLink RX5 55 "CodePress$Parser" "fault" "I") (List.mem_of_getElem? (i := 3) rfl)) (fun _ h9 => h9) rfl (by decide +kernel) rfl rfl (Nat.le_of_ble_eq_true rfl) dX5_start_12 (fun H locs hP hD hS => ?_)
  have hR9 : pq_R (dC, dI) vwCl A [((fa0 16), .inr (5, [.ref (fa0 11), .ref (fa0 2), .ref (fa0 1), .int 0, .int 0, .int 0, .int 0, .int 0, .int 0, .long 0, .int 0])), ((fa0 11), .inr (2, [.ref (fa0 0), .ref (fa0 32), .ref (fa0 12), .ref (fa0 13), .ref (fa0 14), .ref (fa0 15), .int 0, .int 0, .int 0, .int 0, .int 0, .long 0])), ((fa0 0), .inl (cB, 3000, .inl (fun _ => 0))), ((fa0 12), .inl (cI, 801, .inl (fun _ => 0))), ((fa0 13), .inl (cI, 801, .inl (fun _ => 0))), ((fa0 14), .inl (cI, 801, .inl (fun _ => 0))), ((fa0 15), .inl (cJ, 801, .inr (.inl (fun _ => 0))))] H := ⟨hP, hD⟩
  have hP := hR9.1
  have hD := hR9.2
  refine lv_aload_n hx hb dX5_start_15 rfl (lv_at hl 0 rfl) ?_
  refine lv_iconst (v := (-1)) hx hb dX5_start_16 (by decide) ?_
  refine va_put (D := (dC, dI)) (ci := 5) (v := .int (-1)) (ty := .int) (C := RX5) (T := TX5) (N := 11) hx hb hts iq_X5_start_X5 tyX5 tyX5_ok nmX5 hown hK hP hD hS 0 rfl rfl 8 (by decide) (hts (Cond.fieldLink RX5 58 "CodePress$Parser" "place" "I") (List.mem_of_getElem? (i := 4) rfl)) (fun _ h9 => h9) rfl (by decide +kernel) rfl rfl (Nat.le_of_ble_eq_true rfl) dX5_start_17 (fun H locs hP hD hS => ?_)
  have hR9 : pq_R (dC, dI) vwCl A [((fa0 16), .inr (5, [.ref (fa0 11), .ref (fa0 2), .ref (fa0 1), .int 0, .int 0, .int 0, .int 0, .int 0, .int (-1), .long 0, .int 0])), ((fa0 11), .inr (2, [.ref (fa0 0), .ref (fa0 32), .ref (fa0 12), .ref (fa0 13), .ref (fa0 14), .ref (fa0 15), .int 0, .int 0, .int 0, .int 0, .int 0, .long 0])), ((fa0 0), .inl (cB, 3000, .inl (fun _ => 0))), ((fa0 12), .inl (cI, 801, .inl (fun _ => 0))), ((fa0 13), .inl (cI, 801, .inl (fun _ => 0))), ((fa0 14), .inl (cI, 801, .inl (fun _ => 0))), ((fa0 15), .inl (cJ, 801, .inr (.inl (fun _ => 0))))] H := ⟨hP, hD⟩
  have hP := hR9.1
  have hD := hR9.2
  refine lv_aload_n hx hb dX5_start_20 rfl (lv_at hl 0 rfl) ?_
  refine va_get (D := (dC, dI)) (ci := 5) (v := .ref (fa0 11)) (C := RX5) (T := TX5) (N := 11) hx hb hts iq_X5_start_X5 hown hK hP 0 rfl rfl 0 (by decide) (hts (Cond.fieldLink RX5 9 "CodePress$Parser" "lexer" "LCodePress$Lexer;") (List.mem_of_getElem? (i := 5) rfl)) (fun _ h9 => h9) rfl dX5_start_21 ?_
  refine lv_iload_n hx hb dX5_start_24 rfl (lv_at hl 1 rfl) ?_
  refine pq_cv (wr := [((fa0 16), .inr (5, [.ref (fa0 11), .ref (fa0 2), .ref (fa0 1), .int 0, .int 0, .int 0, .int 0, .int 0, .int (-1), .long 0, .int 0]))]) (W1 := (fun u => [((fa0 0), .inl (cB, 3000, .inl (fun _ => 0))), ((fa0 12), .inl (cI, 801, .inl (upd (fun _ => 0) 0 260))), ((fa0 13), .inl (cI, 801, .inl (upd (fun _ => 0) 0 0))), ((fa0 14), .inl (cI, 801, .inl (upd (fun _ => 0) 0 0))), ((fa0 15), .inl (cJ, 801, .inr (.inl (vp_updL (fun _ => 0) 0 0)))), ((fa0 11), .inr (2, [.ref (fa0 0), .ref (fa0 32), .ref (fa0 12), .ref (fa0 13), .ref (fa0 14), .ref (fa0 15), .int 0, .int 0, .int 260, .int 0, .int 0, .long 0]))])) (va_runV (As := [.int 0]) (rest := []) ⟨hx, hb, hml, hown, hts⟩ (cq_X2_read l dC dI cB cI cJ cZ fa0 H.size) (cwV 1 hts gq_X5_start_X2_read_61 rfl rfl rfl (by decide +kernel) ⟨(by decide +kernel), (by decide +kernel)⟩) ⟨pq_blind, va_recv hK hP (ci := 2) (q0 := 1) rfl rfl, pq_pre hK hP hD [1, 2, 3, 4, 5, 6] rfl rfl⟩ rfl rfl hl.1 rfl (lv_room (Nat.le_of_ble_eq_true rfl)) dX5_start_25 ⟨(by decide +kernel), (by decide +kernel)⟩) hP hD hS hA [1, 2, 3, 4, 5, 6] [0] rfl rfl rfl (by decide) (fun u1 H locs hw hP hD hS => ?_)
  have hR9 : pq_R (dC, dI) vwCl A [((fa0 16), .inr (5, [.ref (fa0 11), .ref (fa0 2), .ref (fa0 1), .int 0, .int 0, .int 0, .int 0, .int 0, .int (-1), .long 0, .int 0])), ((fa0 0), .inl (cB, 3000, .inl (fun _ => 0))), ((fa0 12), .inl (cI, 801, .inl (upd (fun _ => 0) 0 260))), ((fa0 13), .inl (cI, 801, .inl (upd (fun _ => 0) 0 0))), ((fa0 14), .inl (cI, 801, .inl (upd (fun _ => 0) 0 0))), ((fa0 15), .inl (cJ, 801, .inr (.inl (vp_updL (fun _ => 0) 0 0)))), ((fa0 11), .inr (2, [.ref (fa0 0), .ref (fa0 32), .ref (fa0 12), .ref (fa0 13), .ref (fa0 14), .ref (fa0 15), .int 0, .int 0, .int 260, .int 0, .int 0, .long 0]))] H := ⟨hP, hD⟩
  have hP := hR9.1
  have hD := hR9.2
  refine W.widen (k := 0) (n := 0) (by decide +kernel) (by decide +kernel) ?_
  refine lv_aload_n hx hb dX5_start_28 rfl (lv_at hl 0 rfl) ?_
  refine lv_aload_n hx hb dX5_start_29 rfl (lv_at hl 0 rfl) ?_
  refine va_get (D := (dC, dI)) (ci := 5) (v := .ref (fa0 11)) (C := RX5) (T := TX5) (N := 11) hx hb hts iq_X5_start_X5 hown hK hP 0 rfl rfl 0 (by decide) (hts (Cond.fieldLink RX5 9 "CodePress$Parser" "lexer" "LCodePress$Lexer;") (List.mem_of_getElem? (i := 5) rfl)) (fun _ h9 => h9) rfl dX5_start_30 ?_
  refine va_get (D := (dC, dI)) (ci := 2) (v := .ref (fa0 12)) (C := RX2) (T := TX2) (N := 12) hx hb hts iq_X5_start_X2 hown hK hP 6 rfl rfl 2 (by decide) (hts (Cond.fieldLink RX5 64 "CodePress$Lexer" "kinds" "[I") (List.mem_of_getElem? (i := 30) rfl)) (fun _ h9 => h9) rfl dX5_start_33 ?_
  refine lv_iconst (v := 0) hx hb dX5_start_36 (by decide) ?_
  refine va_iald hx hb hK hP 2 1 rfl rfl (pq_in (by decide)) dX5_start_37 ?_
  refine lv_topi (fun x2 ex2 => ?_)
  obtain rfl : x2 = 260 := ex2.trans (by decide)
  refine va_put (D := (dC, dI)) (ci := 5) (v := .int 260) (ty := .int) (C := RX5) (T := TX5) (N := 11) hx hb hts iq_X5_start_X5 tyX5 tyX5_ok nmX5 hown hK hP hD hS 0 rfl rfl 4 (by decide) (hts (Cond.fieldLink RX5 27 "CodePress$Parser" "kind" "I") (List.mem_of_getElem? (i := 31) rfl)) (fun _ h9 => h9) rfl (by decide +kernel) rfl rfl (Nat.le_of_ble_eq_true rfl) dX5_start_38 (fun H locs hP hD hS => ?_)
  have hR9 : pq_R (dC, dI) vwCl A [((fa0 16), .inr (5, [.ref (fa0 11), .ref (fa0 2), .ref (fa0 1), .int 0, .int 260, .int 0, .int 0, .int 0, .int (-1), .long 0, .int 0])), ((fa0 0), .inl (cB, 3000, .inl (fun _ => 0))), ((fa0 12), .inl (cI, 801, .inl (upd (fun _ => 0) 0 260))), ((fa0 13), .inl (cI, 801, .inl (upd (fun _ => 0) 0 0))), ((fa0 14), .inl (cI, 801, .inl (upd (fun _ => 0) 0 0))), ((fa0 15), .inl (cJ, 801, .inr (.inl (vp_updL (fun _ => 0) 0 0)))), ((fa0 11), .inr (2, [.ref (fa0 0), .ref (fa0 32), .ref (fa0 12), .ref (fa0 13), .ref (fa0 14), .ref (fa0 15), .int 0, .int 0, .int 260, .int 0, .int 0, .long 0]))] H := ⟨hP, hD⟩
  have hP := hR9.1
  have hD := hR9.2
  refine lv_aload_n hx hb dX5_start_41 rfl (lv_at hl 0 rfl) ?_
  refine lv_aload_n hx hb dX5_start_42 rfl (lv_at hl 0 rfl) ?_
  refine va_get (D := (dC, dI)) (ci := 5) (v := .ref (fa0 11)) (C := RX5) (T := TX5) (N := 11) hx hb hts iq_X5_start_X5 hown hK hP 0 rfl rfl 0 (by decide) (hts (Cond.fieldLink RX5 9 "CodePress$Parser" "lexer" "LCodePress$Lexer;") (List.mem_of_getElem? (i := 5) rfl)) (fun _ h9 => h9) rfl dX5_start_43 ?_
  refine va_get (D := (dC, dI)) (ci := 2) (v := .ref (fa0 13)) (C := RX2) (T := TX2) (N := 12) hx hb hts iq_X5_start_X2 hown hK hP 6 rfl rfl 3 (by decide) (hts (Cond.fieldLink RX5 68 "CodePress$Lexer" "places" "[I") (List.mem_of_getElem? (i := 32) rfl)) (fun _ h9 => h9) rfl dX5_start_46 ?_
  refine lv_iconst (v := 0) hx hb dX5_start_49 (by decide) ?_
  refine va_iald hx hb hK hP 3 1 rfl rfl (pq_in (by decide)) dX5_start_50 ?_
  refine lv_topi (fun x3 ex3 => ?_)
  obtain rfl : x3 = 0 := ex3.trans (by decide)
  refine va_put (D := (dC, dI)) (ci := 5) (v := .int 0) (ty := .int) (C := RX5) (T := TX5) (N := 11) hx hb hts iq_X5_start_X5 tyX5 tyX5_ok nmX5 hown hK hP hD hS 0 rfl rfl 5 (by decide) (hts (Cond.fieldLink RX5 71 "CodePress$Parser" "at" "I") (List.mem_of_getElem? (i := 33) rfl)) (fun _ h9 => h9) rfl (by decide +kernel) rfl rfl (Nat.le_of_ble_eq_true rfl) dX5_start_51 (fun H locs hP hD hS => ?_)
  have hR9 : pq_R (dC, dI) vwCl A [((fa0 16), .inr (5, [.ref (fa0 11), .ref (fa0 2), .ref (fa0 1), .int 0, .int 260, .int 0, .int 0, .int 0, .int (-1), .long 0, .int 0])), ((fa0 0), .inl (cB, 3000, .inl (fun _ => 0))), ((fa0 12), .inl (cI, 801, .inl (upd (fun _ => 0) 0 260))), ((fa0 13), .inl (cI, 801, .inl (upd (fun _ => 0) 0 0))), ((fa0 14), .inl (cI, 801, .inl (upd (fun _ => 0) 0 0))), ((fa0 15), .inl (cJ, 801, .inr (.inl (vp_updL (fun _ => 0) 0 0)))), ((fa0 11), .inr (2, [.ref (fa0 0), .ref (fa0 32), .ref (fa0 12), .ref (fa0 13), .ref (fa0 14), .ref (fa0 15), .int 0, .int 0, .int 260, .int 0, .int 0, .long 0]))] H := ⟨hP, hD⟩
  have hP := hR9.1
  have hD := hR9.2
  have hP9 := pq_P.pick (wc := [((fa0 16), .inr (5, [.ref (fa0 11), .ref (fa0 2), .ref (fa0 1), .int 0, .int 260, .int 0, .int 0, .int 0, .int (-1), .long 0, .int 0])), ((fa0 0), .inl (cB, 3000, .inl (fun _ => 0))), ((fa0 12), .inl (cI, 801, .inl (upd (fun _ => 0) 0 260))), ((fa0 13), .inl (cI, 801, .inl (upd (fun _ => 0) 0 0))), ((fa0 14), .inl (cI, 801, .inl (upd (fun _ => 0) 0 0))), ((fa0 15), .inl (cJ, 801, .inr (.inl (vp_updL (fun _ => 0) 0 0)))), ((fa0 11), .inr (2, [.ref (fa0 0), .ref (fa0 32), .ref (fa0 12), .ref (fa0 13), .ref (fa0 14), .ref (fa0 15), .int 0, .int 0, .int 260, .int 0, .int 0, .long 0]))]) hP [0, 1, 2, 3, 4, 5, 6] rfl
  have hD9 := hD.sub (ws' := [((fa0 16), .inr (5, [.ref (fa0 11), .ref (fa0 2), .ref (fa0 1), .int 0, .int 260, .int 0, .int 0, .int 0, .int (-1), .long 0, .int 0])), ((fa0 0), .inl (cB, 3000, .inl (fun _ => 0))), ((fa0 12), .inl (cI, 801, .inl (upd (fun _ => 0) 0 260))), ((fa0 13), .inl (cI, 801, .inl (upd (fun _ => 0) 0 0))), ((fa0 14), .inl (cI, 801, .inl (upd (fun _ => 0) 0 0))), ((fa0 15), .inl (cJ, 801, .inr (.inl (vp_updL (fun _ => 0) 0 0)))), ((fa0 11), .inr (2, [.ref (fa0 0), .ref (fa0 32), .ref (fa0 12), .ref (fa0 13), .ref (fa0 14), .ref (fa0 15), .int 0, .int 0, .int 260, .int 0, .int 0, .long 0]))]) [0, 1, 2, 3, 4, 5, 6] (by decide) rfl
  refine W.widen (k := 0) (n := 0) (by decide +kernel) (by decide +kernel) ?_
  exact W.vret hx hb hr (fun t ht hW => ⟨⟨sq_u [] [], rfl, trivial, pq_B.of ht hP9 hD9⟩, hS.F ht⟩) hS.2.2 dX5_start_54
def wq_X5_readProgram_r1 : List Cond := [Cond.code yX5_start cX5_start 2 none, Cond.fieldLink RX5 49 "CodePress$Parser" "tokens" "I", Cond.fieldLink RX5 52 "CodePress$Parser" "open" "I", Cond.fieldLink RX5 55 "CodePress$Parser" "fault" "I", Cond.fieldLink RX5 58 "CodePress$Parser" "place" "I", Cond.fieldLink RX5 9 "CodePress$Parser" "lexer" "LCodePress$Lexer;", Cond.code yX2_read cX2_read 3 none, Cond.fieldLink RX2 28 "CodePress$Lexer" "text" "[B", Cond.methodLink RX2 44 Lib.Math.min.name, Cond.static Lib.Math.min.name, Cond.initialized "java/lang/Math", Cond.code Lib.Math.min.name Lib.Math.min.code 2 (some .int), Cond.fieldLink RX2 50 "CodePress$Lexer" "size" "I", Cond.fieldLink RX2 54 "CodePress$Lexer" "pos" "I", Cond.fieldLink RX2 57 "CodePress$Lexer" "kind" "I", Cond.code yX2_next cX2_next 1 none, Cond.fieldLink RX2 63 "CodePress$Lexer" "at" "I", Cond.methodLink RX2 60 yX2_next, Cond.instanceMethod yX2_next, Cond.selects RX2 yX2_next yX2_next, Cond.initialized RX2, Cond.fieldLink RX2 15 "CodePress$Lexer" "kinds" "[I", Cond.fieldLink RX2 19 "CodePress$Lexer" "places" "[I", Cond.fieldLink RX2 22 "CodePress$Lexer" "numbers" "[I"]
def wq_X5_readProgram_r2 : List Cond := [Cond.fieldLink RX2 66 "CodePress$Lexer" "number" "I", Cond.fieldLink RX2 25 "CodePress$Lexer" "names" "[J", Cond.fieldLink RX2 69 "CodePress$Lexer" "name" "J", Cond.methodLink RX5 61 yX2_read, Cond.instanceMethod yX2_read, Cond.selects RX2 yX2_read yX2_read, Cond.fieldLink RX5 64 "CodePress$Lexer" "kinds" "[I", Cond.fieldLink RX5 27 "CodePress$Parser" "kind" "I", Cond.fieldLink RX5 68 "CodePress$Lexer" "places" "[I", Cond.fieldLink RX5 71 "CodePress$Parser" "at" "I", Cond.methodLink RX5 23 yX5_start, Cond.instanceMethod yX5_start, Cond.selects RX5 yX5_start yX5_start, Cond.initialized RX5]
def wq_X5_readProgram : List Cond := Cond.code yX5_readProgram cX5_readProgram 3 none :: ((wq_X5_readProgram_r1 ++ wq_X5_readProgram_r2) ++ wsX50 ++ wsX20)
theorem iq_X5_readProgram_X5 : ∀ w ∈ wsX50, w ∈ wq_X5_readProgram := fun _ h => List.mem_cons_of_mem _ (List.mem_append_left _ (List.mem_append_right _ h))
theorem iq_X5_readProgram_X2 : ∀ w ∈ wsX20, w ∈ wq_X5_readProgram := fun _ h => List.mem_cons_of_mem _ (List.mem_append_right _ h)
set_option maxRecDepth 20000 in
theorem gq_X5_readProgram_X5_start_23_0 : GoodIn wq_X5_readProgram (Cond.code yX5_start cX5_start 2 none :: (wq_X5_start_r1 ++ wq_X5_start_r2)) := goodIn_r _ [1, 2, 3, 4, 5, 6, 7, 8, 9, 10, 11, 12, 13, 14, 15, 16, 17, 18, 19, 20, 21, 22, 23, 24, 25, 26, 27, 28, 29, 30, 31, 32, 33, 34] (by decide +kernel) (by decide +kernel)
set_option maxRecDepth 20000 in
theorem gq_X5_readProgram_X5_start_23 : GoodIn wq_X5_readProgram (wsV RX5 23 RX5 yX5_start wq_X5_start) := goodIn_app (goodIn_r _ [35, 36, 37, 38] (by decide +kernel) (by decide +kernel)) (goodIn_ca (goodIn_ca gq_X5_readProgram_X5_start_23_0 (goodIn_sub iq_X5_readProgram_X5 guX5)) (goodIn_sub iq_X5_readProgram_X2 guX2))
set_option maxHeartbeats 4000000 in
set_option maxRecDepth 100000 in
theorem cq_X5_readProgram (l : Launch) (dC : Nat → ClassId) (dI : Nat → Nat → Nat) (cB cI cJ cZ : ClassId) (fa0 : Nat → Nat) (sz : Nat) : Met l yX5_readProgram wq_X5_readProgram ({ frames := 3, cells := 0, slots := 0, locals := 64 }) (va_Pc [.ref (fa0 16), .int 0] (pq_W (dC, dI) vwCl (tyQ cB cI cJ cZ) [((fa0 16), .inr (5, [.ref (fa0 11), .ref (fa0 2), .ref (fa0 1), .int 0, .int 0, .int 0, .int 0, .int 0, .int 0, .long 0, .int 0])), ((fa0 11), .inr (2, [.ref (fa0 0), .ref (fa0 32), .ref (fa0 12), .ref (fa0 13), .ref (fa0 14), .ref (fa0 15), .int 0, .int 0, .int 0, .int 0, .int 0, .long 0])), ((fa0 0), .inl (cB, 3000, .inl (fun _ => 0))), ((fa0 12), .inl (cI, 801, .inl (fun _ => 0))), ((fa0 13), .inl (cI, 801, .inl (fun _ => 0))), ((fa0 14), .inl (cI, 801, .inl (fun _ => 0))), ((fa0 15), .inl (cJ, 801, .inr (.inl (fun _ => 0))))] sz)) (va_Qv (fun (_ : SQ) => True) (fun u => pq_B (dC, dI) vwCl [((fa0 16), .inr (5, [.ref (fa0 11), .ref (fa0 2), .ref (fa0 1), .int 0, .int 260, .int 0, .int 0, .int 0, .int (-1), .long 0, .int 0])), ((fa0 0), .inl (cB, 3000, .inl (fun _ => 0))), ((fa0 12), .inl (cI, 801, .inl (upd (fun _ => 0) 0 260))), ((fa0 13), .inl (cI, 801, .inl (upd (fun _ => 0) 0 0))), ((fa0 14), .inl (cI, 801, .inl (upd (fun _ => 0) 0 0))), ((fa0 15), .inl (cJ, 801, .inr (.inl (vp_updL (fun _ => 0) 0 0)))), ((fa0 11), .inr (2, [.ref (fa0 0), .ref (fa0 32), .ref (fa0 12), .ref (fa0 13), .ref (fa0 14), .ref (fa0 15), .int 0, .int 0, .int 260, .int 0, .int 0, .long 0]))] (va_A [((fa0 16), .inr (5, [.ref (fa0 11), .ref (fa0 2), .ref (fa0 1), .int 0, .int 0, .int 0, .int 0, .int 0, .int 0, .long 0, .int 0])), ((fa0 11), .inr (2, [.ref (fa0 0), .ref (fa0 32), .ref (fa0 12), .ref (fa0 13), .ref (fa0 14), .ref (fa0 15), .int 0, .int 0, .int 0, .int 0, .int 0, .long 0])), ((fa0 0), .inl (cB, 3000, .inl (fun _ => 0))), ((fa0 12), .inl (cI, 801, .inl (fun _ => 0))), ((fa0 13), .inl (cI, 801, .inl (fun _ => 0))), ((fa0 14), .inl (cI, 801, .inl (fun _ => 0))), ((fa0 15), .inl (cJ, 801, .inr (.inl (fun _ => 0))))] sz)) (va_A [((fa0 16), .inr (5, [.ref (fa0 11), .ref (fa0 2), .ref (fa0 1), .int 0, .int 0, .int 0, .int 0, .int 0, .int 0, .long 0, .int 0])), ((fa0 11), .inr (2, [.ref (fa0 0), .ref (fa0 32), .ref (fa0 12), .ref (fa0 13), .ref (fa0 14), .ref (fa0 15), .int 0, .int 0, .int 0, .int 0, .int 0, .long 0])), ((fa0 0), .inl (cB, 3000, .inl (fun _ => 0))), ((fa0 12), .inl (cI, 801, .inl (fun _ => 0))), ((fa0 13), .inl (cI, 801, .inl (fun _ => 0))), ((fa0 14), .inl (cI, 801, .inl (fun _ => 0))), ((fa0 15), .inl (cJ, 801, .inr (.inl (fun _ => 0))))] sz)) 0 0 (va_A [((fa0 16), .inr (5, [.ref (fa0 11), .ref (fa0 2), .ref (fa0 1), .int 0, .int 0, .int 0, .int 0, .int 0, .int 0, .long 0, .int 0])), ((fa0 11), .inr (2, [.ref (fa0 0), .ref (fa0 32), .ref (fa0 12), .ref (fa0 13), .ref (fa0 14), .ref (fa0 15), .int 0, .int 0, .int 0, .int 0, .int 0, .long 0])), ((fa0 0), .inl (cB, 3000, .inl (fun _ => 0))), ((fa0 12), .inl (cI, 801, .inl (fun _ => 0))), ((fa0 13), .inl (cI, 801, .inl (fun _ => 0))), ((fa0 14), .inl (cI, 801, .inl (fun _ => 0))), ((fa0 15), .inl (cJ, 801, .inr (.inl (fun _ => 0))))] sz) := by
  refine Met.ofW (cc := cX5_readProgram) (maxL := 3) (ret := none) (by decide) rfl ?_
  intro p e s m args below meth c s₁ B hml hv
  obtain ⟨rfl, hsz, hP, hK, hD0⟩ := hv
  have hx := B.exec
  have hb := B.bytes
  have hr := B.returns
  have hts := atoms_spec (ws := wq_X5_readProgram) B.pre
  have hown : s.vm.findClass RX5 = some m.cls := findClass_of_methodNamed B.named
  have hlocks := B.notSynchronized
  subst hsz
  have hD := hD0.self (sz := s.heap.size)
  generalize hAe : va_A [((fa0 16), .inr (5, [.ref (fa0 11), .ref (fa0 2), .ref (fa0 1), .int 0, .int 0, .int 0, .int 0, .int 0, .int 0, .long 0, .int 0])), ((fa0 11), .inr (2, [.ref (fa0 0), .ref (fa0 32), .ref (fa0 12), .ref (fa0 13), .ref (fa0 14), .ref (fa0 15), .int 0, .int 0, .int 0, .int 0, .int 0, .long 0])), ((fa0 0), .inl (cB, 3000, .inl (fun _ => 0))), ((fa0 12), .inl (cI, 801, .inl (fun _ => 0))), ((fa0 13), .inl (cI, 801, .inl (fun _ => 0))), ((fa0 14), .inl (cI, 801, .inl (fun _ => 0))), ((fa0 15), .inl (cJ, 801, .inr (.inl (fun _ => 0))))] s.heap.size = A at hD ⊢
  have hA : ∀ q : Nat, s.heap.size ≤ q → A q := fun q h => by rw [← hAe]; exact Or.inr h
  have hS : va_S A s.heap s.heap [] := va_S.rf
  have hP : va_P (dC, dI) vwCl [((fa0 16), .inr (5, [.ref (fa0 11), .ref (fa0 2), .ref (fa0 1), .int 0, .int 0, .int 0, .int 0, .int 0, .int 0, .long 0, .int 0])), ((fa0 11), .inr (2, [.ref (fa0 0), .ref (fa0 32), .ref (fa0 12), .ref (fa0 13), .ref (fa0 14), .ref (fa0 15), .int 0, .int 0, .int 0, .int 0, .int 0, .long 0])), ((fa0 0), .inl (cB, 3000, .inl (fun _ => 0))), ((fa0 12), .inl (cI, 801, .inl (fun _ => 0))), ((fa0 13), .inl (cI, 801, .inl (fun _ => 0))), ((fa0 14), .inl (cI, 801, .inl (fun _ => 0))), ((fa0 15), .inl (cJ, 801, .inr (.inl (fun _ => 0))))] s.heap := hP
  obtain ⟨H, hH⟩ : ∃ H, H = s.heap := ⟨_, rfl⟩
  rw [← hH] at hP
  have hS : va_S A s.heap H [] := by rw [hH]; exact hS
  have hl := lv_entry ([.ref (fa0 16), .int 0]) (n := 3) (Nat.le_of_ble_eq_true rfl)
  rw [lg_entry_eq]
  generalize (lg_sl ([.ref (fa0 16), .int 0]) ++ List.replicate (3 - (lg_sl ([.ref (fa0 16), .int 0])).length) Slot.unset).toArray = ls at hl ⊢
  have hl : lv_has ls 3 [(0, .ref (fa0 16)), (1, .int 0)] := hl
  refine pq_heap hH ?_
  refine lv_aload_n hx hb dX5_readProgram_0 rfl (lv_at hl 0 rfl) ?_
  refine lv_iload_n hx hb dX5_readProgram_1 rfl (lv_at hl 1 rfl) ?_
  refine pq_cv (wr := []) (W1 := (fun u => [((fa0 16), .inr (5, [.ref (fa0 11), .ref (fa0 2), .ref (fa0 1), .int 0, .int 260, .int 0, .int 0, .int 0, .int (-1), .long 0, .int 0])), ((fa0 0), .inl (cB, 3000, .inl (fun _ => 0))), ((fa0 12), .inl (cI, 801, .inl (upd (fun _ => 0) 0 260))), ((fa0 13), .inl (cI, 801, .inl (upd (fun _ => 0) 0 0))), ((fa0 14), .inl (cI, 801, .inl (upd (fun _ => 0) 0 0))), ((fa0 15), .inl (cJ, 801, .inr (.inl (vp_updL (fun _ => 0) 0 0)))), ((fa0 11), .inr (2, [.ref (fa0 0), .ref (fa0 32), .ref (fa0 12), .ref (fa0 13), .ref (fa0 14), .ref (fa0 15), .int 0, .int 0, .int 260, .int 0, .int 0, .long 0]))])) (va_runV (As := [.int 0]) (rest := []) ⟨hx, hb, hml, hown, hts⟩ (cq_X5_start l dC dI cB cI cJ cZ fa0 H.size) (cwV 1 hts gq_X5_readProgram_X5_start_23 rfl rfl rfl (by decide +kernel) ⟨(by decide +kernel), (by decide +kernel)⟩) ⟨pq_blind, va_recv hK hP (ci := 5) (q0 := 0) rfl rfl, pq_pre hK hP hD [0, 1, 2, 3, 4, 5, 6] rfl rfl⟩ rfl rfl hl.1 rfl (lv_room (Nat.le_of_ble_eq_true rfl)) dX5_readProgram_2 ⟨(by decide +kernel), (by decide +kernel)⟩) hP hD hS hA [0, 1, 2, 3, 4, 5, 6] [] rfl rfl rfl (by decide) (fun u1 H locs hw hP hD hS => ?_)
  have hR9 : pq_R (dC, dI) vwCl A [((fa0 16), .inr (5, [.ref (fa0 11), .ref (fa0 2), .ref (fa0 1), .int 0, .int 260, .int 0, .int 0, .int 0, .int (-1), .long 0, .int 0])), ((fa0 0), .inl (cB, 3000, .inl (fun _ => 0))), ((fa0 12), .inl (cI, 801, .inl (upd (fun _ => 0) 0 260))), ((fa0 13), .inl (cI, 801, .inl (upd (fun _ => 0) 0 0))), ((fa0 14), .inl (cI, 801, .inl (upd (fun _ => 0) 0 0))), ((fa0 15), .inl (cJ, 801, .inr (.inl (vp_updL (fun _ => 0) 0 0)))), ((fa0 11), .inr (2, [.ref (fa0 0), .ref (fa0 32), .ref (fa0 12), .ref (fa0 13), .ref (fa0 14), .ref (fa0 15), .int 0, .int 0, .int 260, .int 0, .int 0, .long 0]))] H := ⟨hP, hD⟩
  have hP := hR9.1
  have hD := hR9.2
  refine W.widen (k := 0) (n := 0) (by decide +kernel) (by decide +kernel) ?_
  refine lv_iconst (v := 0) hx hb dX5_readProgram_5 (by decide) ?_
  refine lv_istore_n (lv' := [(2, .int 0), (0, .ref (fa0 16)), (1, .int 0)]) hx hb dX5_readProgram_6 rfl hl (by decide) rfl (fun ls hl => ?_)
  refine lv_iload_n hx hb dX5_readProgram_7 rfl (lv_at hl 0 rfl) ?_
  refine lv_bipush (v := 16) hx hb dX5_readProgram_8 (by decide) ?_
  refine lv_icmp_gt (tgt := 44) hx hb dX5_readProgram_10 (by decide) (fun c_ => absurd c_ (by decide)) (fun _ => ?_)
  refine lv_aload_n hx hb dX5_readProgram_13 rfl (lv_at hl 1 rfl) ?_
  refine va_get (D := (dC, dI)) (ci := 5) (v := .int 260) (C := RX5) (T := TX5) (N := 11) hx hb hts iq_X5_readProgram_X5 hown hK hP 0 rfl rfl 4 (by decide) (hts (Cond.fieldLink RX5 27 "CodePress$Parser" "kind" "I") (List.mem_of_getElem? (i := 32) rfl)) (fun _ h9 => h9) rfl dX5_readProgram_14 ?_
  refine lv_sipush (v := 270) hx hb dX5_readProgram_17 (by decide) ?_
  refine lv_icmp_ne (tgt := 44) hx hb dX5_readProgram_20 (by decide) (fun _ => ?_) (fun c_ => absurd c_ (by decide))
  refine lv_aload_n hx hb dX5_readProgram_44 rfl (lv_at hl 1 rfl) ?_
  refine va_get (D := (dC, dI)) (ci := 5) (v := .int 260) (C := RX5) (T := TX5) (N := 11) hx hb hts iq_X5_readProgram_X5 hown hK hP 0 rfl rfl 4 (by decide) (hts (Cond.fieldLink RX5 27 "CodePress$Parser" "kind" "I") (List.mem_of_getElem? (i := 32) rfl)) (fun _ h9 => h9) rfl dX5_readProgram_45 ?_
  refine lv_sipush (v := 260) hx hb dX5_readProgram_48 (by decide) ?_
  refine lv_icmp_eq (tgt := 59) hx hb dX5_readProgram_51 (by decide) (fun _ => ?_) (fun c_ => absurd (by decide) c_)
  have hP9 := pq_P.pick (wc := [((fa0 16), .inr (5, [.ref (fa0 11), .ref (fa0 2), .ref (fa0 1), .int 0, .int 260, .int 0, .int 0, .int 0, .int (-1), .long 0, .int 0])), ((fa0 0), .inl (cB, 3000, .inl (fun _ => 0))), ((fa0 12), .inl (cI, 801, .inl (upd (fun _ => 0) 0 260))), ((fa0 13), .inl (cI, 801, .inl (upd (fun _ => 0) 0 0))), ((fa0 14), .inl (cI, 801, .inl (upd (fun _ => 0) 0 0))), ((fa0 15), .inl (cJ, 801, .inr (.inl (vp_updL (fun _ => 0) 0 0)))), ((fa0 11), .inr (2, [.ref (fa0 0), .ref (fa0 32), .ref (fa0 12), .ref (fa0 13), .ref (fa0 14), .ref (fa0 15), .int 0, .int 0, .int 260, .int 0, .int 0, .long 0]))]) hP [0, 1, 2, 3, 4, 5, 6] rfl
  have hD9 := hD.sub (ws' := [((fa0 16), .inr (5, [.ref (fa0 11), .ref (fa0 2), .ref (fa0 1), .int 0, .int 260, .int 0, .int 0, .int 0, .int (-1), .long 0, .int 0])), ((fa0 0), .inl (cB, 3000, .inl (fun _ => 0))), ((fa0 12), .inl (cI, 801, .inl (upd (fun _ => 0) 0 260))), ((fa0 13), .inl (cI, 801, .inl (upd (fun _ => 0) 0 0))), ((fa0 14), .inl (cI, 801, .inl (upd (fun _ => 0) 0 0))), ((fa0 15), .inl (cJ, 801, .inr (.inl (vp_updL (fun _ => 0) 0 0)))), ((fa0 11), .inr (2, [.ref (fa0 0), .ref (fa0 32), .ref (fa0 12), .ref (fa0 13), .ref (fa0 14), .ref (fa0 15), .int 0, .int 0, .int 260, .int 0, .int 0, .long 0]))]) [0, 1, 2, 3, 4, 5, 6] (by decide) rfl
  refine W.widen (k := 0) (n := 0) (by decide +kernel) (by decide +kernel) ?_
  exact W.vret hx hb hr (fun t ht hW => ⟨⟨sq_u [] [], rfl, trivial, pq_B.of ht hP9 hD9⟩, hS.F ht⟩) hS.2.2 dX5_readProgram_59
def wq_X7_check_r1 : List Cond := [Cond.fieldLink RX7 36 "CodePress$Typer" "top" "I", Cond.fieldLink RX7 40 "CodePress$Typer" "told" "I", Cond.fieldLink RX7 43 "CodePress$Typer" "level" "I", Cond.fieldLink RX7 46 "CodePress$Typer" "fault" "I", Cond.fieldLink RX7 49 "CodePress$Typer" "place" "I"]
def wq_X7_check : List Cond := Cond.code yX7_check cX7_check 4 none :: (wq_X7_check_r1 ++ wsX70)
theorem iq_X7_check_X7 : ∀ w ∈ wsX70, w ∈ wq_X7_check := fun _ h => List.mem_cons_of_mem _ (List.mem_append_right _ h)
set_option maxHeartbeats 4000000 in
set_option maxRecDepth 100000 in
theorem cq_X7_check (l : Launch) (dC : Nat → ClassId) (dI : Nat → Nat → Nat) (cB cI cJ cZ : ClassId) (fa0 : Nat → Nat) (sz : Nat) : Met l yX7_check wq_X7_check ({ frames := 0, cells := 0, slots := 0, locals := 0 }) (va_Pc [.ref (fa0 17), .int 1700, .int 1700] (pq_W (dC, dI) vwCl (tyQ cB cI cJ cZ) [((fa0 17), .inr (7, [.ref (fa0 2), .ref (fa0 1), .ref (fa0 33), .ref (fa0 34), .ref (fa0 35), .ref (fa0 36), .ref (fa0 37), .int 0, .int 0, .int 0, .int 0, .int 0]))] sz)) (va_Qv (fun (_ : SQ) => True) (fun u => pq_B (dC, dI) vwCl [((fa0 17), .inr (7, [.ref (fa0 2), .ref (fa0 1), .ref (fa0 33), .ref (fa0 34), .ref (fa0 35), .ref (fa0 36), .ref (fa0 37), .int 0, .int 0, .int 0, .int 0, .int (-1)]))] (va_A [((fa0 17), .inr (7, [.ref (fa0 2), .ref (fa0 1), .ref (fa0 33), .ref (fa0 34), .ref (fa0 35), .ref (fa0 36), .ref (fa0 37), .int 0, .int 0, .int 0, .int 0, .int 0]))] sz)) (va_A [((fa0 17), .inr (7, [.ref (fa0 2), .ref (fa0 1), .ref (fa0 33), .ref (fa0 34), .ref (fa0 35), .ref (fa0 36), .ref (fa0 37), .int 0, .int 0, .int 0, .int 0, .int 0]))] sz)) 0 0 (va_A [((fa0 17), .inr (7, [.ref (fa0 2), .ref (fa0 1), .ref (fa0 33), .ref (fa0 34), .ref (fa0 35), .ref (fa0 36), .ref (fa0 37), .int 0, .int 0, .int 0, .int 0, .int 0]))] sz) := by
  refine Met.ofW (cc := cX7_check) (maxL := 4) (ret := none) (by decide) rfl ?_
  intro p e s m args below meth c s₁ B hml hv
  obtain ⟨rfl, hsz, hP, hK, hD0⟩ := hv
  have hx := B.exec
  have hb := B.bytes
  have hr := B.returns
  have hts := atoms_spec (ws := wq_X7_check) B.pre
  have hown : s.vm.findClass RX7 = some m.cls := findClass_of_methodNamed B.named
  have hlocks := B.notSynchronized
  subst hsz
  have hD := hD0.self (sz := s.heap.size)
  generalize hAe : va_A [((fa0 17), .inr (7, [.ref (fa0 2), .ref (fa0 1), .ref (fa0 33), .ref (fa0 34), .ref (fa0 35), .ref (fa0 36), .ref (fa0 37), .int 0, .int 0, .int 0, .int 0, .int 0]))] s.heap.size = A at hD ⊢
  have hA : ∀ q : Nat, s.heap.size ≤ q → A q := fun q h => by rw [← hAe]; exact Or.inr h
  have hS : va_S A s.heap s.heap [] := va_S.rf
  have hP : va_P (dC, dI) vwCl [((fa0 17), .inr (7, [.ref (fa0 2), .ref (fa0 1), .ref (fa0 33), .ref (fa0 34), .ref (fa0 35), .ref (fa0 36), .ref (fa0 37), .int 0, .int 0, .int 0, .int 0, .int 0]))] s.heap := hP
  obtain ⟨H, hH⟩ : ∃ H, H = s.heap := ⟨_, rfl⟩
  rw [← hH] at hP
  have hS : va_S A s.heap H [] := by rw [hH]; exact hS
  have hl := lv_entry ([.ref (fa0 17), .int 1700, .int 1700]) (n := 4) (Nat.le_of_ble_eq_true rfl)
  rw [lg_entry_eq]
  generalize (lg_sl ([.ref (fa0 17), .int 1700, .int 1700]) ++ List.replicate (4 - (lg_sl ([.ref (fa0 17), .int 1700, .int 1700])).length) Slot.unset).toArray = ls at hl ⊢
  have hl : lv_has ls 4 [(0, .ref (fa0 17)), (1, .int 1700), (2, .int 1700)] := hl
  refine pq_heap hH ?_
  refine lv_aload_n hx hb dX7_check_0 rfl (lv_at hl 0 rfl) ?_
  refine lv_iconst (v := 0) hx hb dX7_check_1 (by decide) ?_
  refine va_put (D := (dC, dI)) (ci := 7) (v := .int 0) (ty := .int) (C := RX7) (T := TX7) (N := 12) hx hb hts iq_X7_check_X7 tyX7 tyX7_ok nmX7 hown hK hP hD hS 0 rfl rfl 7 (by decide) (hts (Cond.fieldLink RX7 36 "CodePress$Typer" "top" "I") (List.mem_of_getElem? (i := 1) rfl)) (fun _ h9 => h9) rfl (by decide +kernel) rfl rfl (Nat.le_of_ble_eq_true rfl) dX7_check_2 (fun H locs hP hD hS => ?_)
  have hR9 : pq_R (dC, dI) vwCl A [((fa0 17), .inr (7, [.ref (fa0 2), .ref (fa0 1), .ref (fa0 33), .ref (fa0 34), .ref (fa0 35), .ref (fa0 36), .ref (fa0 37), .int 0, .int 0, .int 0, .int 0, .int 0]))] H := ⟨hP, hD⟩
  have hP := hR9.1
  have hD := hR9.2
  refine lv_aload_n hx hb dX7_check_5 rfl (lv_at hl 0 rfl) ?_
  refine lv_iconst (v := 0) hx hb dX7_check_6 (by decide) ?_
  refine va_put (D := (dC, dI)) (ci := 7) (v := .int 0) (ty := .int) (C := RX7) (T := TX7) (N := 12) hx hb hts iq_X7_check_X7 tyX7 tyX7_ok nmX7 hown hK hP hD hS 0 rfl rfl 8 (by decide) (hts (Cond.fieldLink RX7 40 "CodePress$Typer" "told" "I") (List.mem_of_getElem? (i := 2) rfl)) (fun _ h9 => h9) rfl (by decide +kernel) rfl rfl (Nat.le_of_ble_eq_true rfl) dX7_check_7 (fun H locs hP hD hS => ?_)
  have hR9 : pq_R (dC, dI) vwCl A [((fa0 17), .inr (7, [.ref (fa0 2), .ref (fa0 1), .ref (fa0 33), .ref (fa0 34), .ref (fa0 35), .ref (fa0 36), .ref (fa0 37), .int 0, .int 0, .int 0, .int 0, .int 0]))] H := ⟨hP, hD⟩
  have hP := hR9.1
  have hD := hR9.2
  refine lv_aload_n hx hb dX7_check_10 rfl (lv_at hl 0 rfl) ?_
  refine lv_iconst (v := 0) hx hb dX7_check_11 (by decide) ?_
  refine va_put (D := (dC, dI)) (ci := 7) (v := .int 0) (ty := .int) (C := RX7) (T := TX7) (N := 12) hx hb hts iq_X7_check_X7 tyX7 tyX7_ok nmX7 hown hK hP hD hS 0 rfl rfl 9 (by decide) (hts (Cond.fieldLink RX7 43 "CodePress$Typer" "level" "I") (List.mem_of_getElem? (i := 3) rfl)) (fun _ h9 => h9) rfl (by decide +kernel) rfl rfl (Nat.le_of_ble_eq_true rfl) dX7_check_12 (fun H locs hP hD hS => ?_)
  have hR9 : pq_R (dC, dI) vwCl A [((fa0 17), .inr (7, [.ref (fa0 2), .ref (fa0 1), .ref (fa0 33), .ref (fa0 34), .ref (fa0 35), .ref (fa0 36), .ref (fa0 37), .int 0, .int 0, .int 0, .int 0, .int 0]))] H := ⟨hP, hD⟩
  have hP := hR9.1
  have hD := hR9.2
  refine lv_aload_n hx hb dX7_check_15 rfl (lv_at hl 0 rfl) ?_
  refine lv_iconst (v := 0) hx hb dX7_check_16 (by decide) ?_
  refine va_put (D := (dC, dI)) (ci := 7) (v := .int 0) (ty := .int) (C := RX7) (T := TX7) (N := 12) hx hb hts iq_X7_check_X7 tyX7 tyX7_ok nmX7 hown hK hP hD hS 0 rfl rfl 10 (by decide) (hts (Cond.fieldLink RX7 46 "CodePress$Typer" "fault" "I") (List.mem_of_getElem? (i := 4) rfl)) (fun _ h9 => h9) rfl (by decide +kernel) rfl rfl (Nat.le_of_ble_eq_true rfl) dX7_check_17 (fun H locs hP hD hS => ?_)
  have hR9 : pq_R (dC, dI) vwCl A [((fa0 17), .inr (7, [.ref (fa0 2), .ref (fa0 1), .ref (fa0 33), .ref (fa0 34), .ref (fa0 35), .ref (fa0 36), .ref (fa0 37), .int 0, .int 0, .int 0, .int 0, .int 0]))] H := ⟨hP, hD⟩
  have hP := hR9.1
  have hD := hR9.2
  refine lv_aload_n hx hb dX7_check_20 rfl (lv_at hl 0 rfl) ?_
  refine lv_iconst (v := (-1)) hx hb dX7_check_21 (by decide) ?_
  refine va_put (D := (dC, dI)) (ci := 7) (v := .int (-1)) (ty := .int) (C := RX7) (T := TX7) (N := 12) hx hb hts iq_X7_check_X7 tyX7 tyX7_ok nmX7 hown hK hP hD hS 0 rfl rfl 11 (by decide) (hts (Cond.fieldLink RX7 49 "CodePress$Typer" "place" "I") (List.mem_of_getElem? (i := 5) rfl)) (fun _ h9 => h9) rfl (by decide +kernel) rfl rfl (Nat.le_of_ble_eq_true rfl) dX7_check_22 (fun H locs hP hD hS => ?_)
  have hR9 : pq_R (dC, dI) vwCl A [((fa0 17), .inr (7, [.ref (fa0 2), .ref (fa0 1), .ref (fa0 33), .ref (fa0 34), .ref (fa0 35), .ref (fa0 36), .ref (fa0 37), .int 0, .int 0, .int 0, .int 0, .int (-1)]))] H := ⟨hP, hD⟩
  have hP := hR9.1
  have hD := hR9.2
  refine lv_iload_n hx hb dX7_check_25 rfl (lv_at hl 1 rfl) ?_
  refine lv_istore_n (lv' := [(3, .int 1700), (0, .ref (fa0 17)), (1, .int 1700), (2, .int 1700)]) hx hb dX7_check_26 rfl hl (by decide) rfl (fun ls hl => ?_)
  refine lv_iload_n hx hb dX7_check_27 rfl (lv_at hl 0 rfl) ?_
  refine lv_iload_n hx hb dX7_check_28 rfl (lv_at hl 3 rfl) ?_
  refine lv_icmp_ge (tgt := 95) hx hb dX7_check_29 (by decide) (fun _ => ?_) (fun c_ => absurd (by decide) c_)
  have hP9 := pq_P.pick (wc := [((fa0 17), .inr (7, [.ref (fa0 2), .ref (fa0 1), .ref (fa0 33), .ref (fa0 34), .ref (fa0 35), .ref (fa0 36), .ref (fa0 37), .int 0, .int 0, .int 0, .int 0, .int (-1)]))]) hP [0] rfl
  have hD9 := hD.sub (ws' := [((fa0 17), .inr (7, [.ref (fa0 2), .ref (fa0 1), .ref (fa0 33), .ref (fa0 34), .ref (fa0 35), .ref (fa0 36), .ref (fa0 37), .int 0, .int 0, .int 0, .int 0, .int (-1)]))]) [0] (by decide) rfl
  refine W.widen (k := 0) (n := 0) (by decide +kernel) (by decide +kernel) ?_
  exact W.vret hx hb hr (fun t ht hW => ⟨⟨sq_u [] [], rfl, trivial, pq_B.of ht hP9 hD9⟩, hS.F ht⟩) hS.2.2 dX7_check_95
def wq_X10_isSound_r1 : List Cond := [Cond.fieldLink RX10 51 "CodePress" "parser" "LCodePress$Parser;", Cond.fieldLink RX10 198 "CodePress$Parser" "fault" "I", Cond.fieldLink RX10 156 "CodePress" "faultKind" "I", Cond.fieldLink RX10 201 "CodePress$Parser" "place" "I", Cond.fieldLink RX10 101 "CodePress" "faultPlace" "I", Cond.fieldLink RX10 60 "CodePress" "typer" "LCodePress$Typer;", Cond.fieldLink RX10 23 "CodePress" "code" "LCodePress$Code;", Cond.fieldLink RX10 195 "CodePress$Code" "used" "I", Cond.code yX7_check cX7_check 4 none, Cond.fieldLink RX7 36 "CodePress$Typer" "top" "I", Cond.fieldLink RX7 40 "CodePress$Typer" "told" "I", Cond.fieldLink RX7 43 "CodePress$Typer" "level" "I", Cond.fieldLink RX7 46 "CodePress$Typer" "fault" "I", Cond.fieldLink RX7 49 "CodePress$Typer" "place" "I", Cond.methodLink RX10 204 yX7_check, Cond.instanceMethod yX7_check, Cond.selects RX7 yX7_check yX7_check, Cond.initialized RX7, Cond.fieldLink RX10 207 "CodePress$Typer" "fault" "I", Cond.fieldLink RX10 208 "CodePress$Typer" "place" "I"]
def wq_X10_isSound : List Cond := Cond.code yX10_isSound cX10_isSound 2 (some .boolean) :: (wq_X10_isSound_r1 ++ wsX100 ++ wsX50 ++ wsX10 ++ wsX70)
theorem iq_X10_isSound_X10 : ∀ w ∈ wsX100, w ∈ wq_X10_isSound := fun _ h => List.mem_cons_of_mem _ (List.mem_append_left _ (List.mem_append_left _ (List.mem_append_left _ (List.mem_append_right _ h))))
theorem iq_X10_isSound_X5 : ∀ w ∈ wsX50, w ∈ wq_X10_isSound := fun _ h => List.mem_cons_of_mem _ (List.mem_append_left _ (List.mem_append_left _ (List.mem_append_right _ h)))
theorem iq_X10_isSound_X1 : ∀ w ∈ wsX10, w ∈ wq_X10_isSound := fun _ h => List.mem_cons_of_mem _ (List.mem_append_left _ (List.mem_append_right _ h))
theorem iq_X10_isSound_X7 : ∀ w ∈ wsX70, w ∈ wq_X10_isSound := fun _ h => List.mem_cons_of_mem _ (List.mem_append_right _ h)
set_option maxRecDepth 20000 in
theorem gq_X10_isSound_X7_check_204_0 : GoodIn wq_X10_isSound (Cond.code yX7_check cX7_check 4 none :: wq_X7_check_r1) := goodIn_r _ [9, 10, 11, 12, 13, 14] (by decide +kernel) (by decide +kernel)
set_option maxRecDepth 20000 in
theorem gq_X10_isSound_X7_check_204 : GoodIn wq_X10_isSound (wsV RX10 204 RX7 yX7_check wq_X7_check) := goodIn_app (goodIn_r _ [15, 16, 17, 18] (by decide +kernel) (by decide +kernel)) (goodIn_ca gq_X10_isSound_X7_check_204_0 (goodIn_sub iq_X10_isSound_X7 guX7))
set_option maxHeartbeats 4000000 in
set_option maxRecDepth 100000 in
theorem cq_X10_isSound (l : Launch) (dC : Nat → ClassId) (dI : Nat → Nat → Nat) (cB cI cJ cZ : ClassId) (h0 : Nat) (fa0 : Nat → Nat) (sz : Nat) : Met l yX10_isSound wq_X10_isSound ({ frames := 1, cells := 0, slots := 0, locals := 23 }) (va_Pc [.ref h0, .int 1700] (pq_W (dC, dI) vwCl (tyQ cB cI cJ cZ) [(h0, .inr (10, [.ref (fa0 0), .ref (fa0 1), .ref (fa0 2), .ref (fa0 20), .ref (fa0 21), .ref (fa0 16), .ref (fa0 17), .ref (fa0 22), .ref (fa0 23), .ref (fa0 18), .ref (fa0 24), .ref (fa0 25), .ref (fa0 19), .int 0, .int 0, .int (-1), .int 0, .int 0, .int 0])), ((fa0 16), .inr (5, [.ref (fa0 11), .ref (fa0 2), .ref (fa0 1), .int 0, .int 260, .int 0, .int 0, .int 0, .int (-1), .long 0, .int 0])), ((fa0 2), .inr (1, [.ref (fa0 3), .ref (fa0 4), .ref (fa0 5), .ref (fa0 6), .ref (fa0 7), .ref (fa0 8), .ref (fa0 9), .ref (fa0 31), .ref (fa0 10), .int 1700, .int 3400, .int 1])), ((fa0 17), .inr (7, [.ref (fa0 2), .ref (fa0 1), .ref (fa0 33), .ref (fa0 34), .ref (fa0 35), .ref (fa0 36), .ref (fa0 37), .int 0, .int 0, .int 0, .int 0, .int 0]))] sz)) (va_Qi (fun (r : Int32) (_ : SQ) => r = 1) (fun u => pq_B (dC, dI) vwCl [(h0, .inr (10, [.ref (fa0 0), .ref (fa0 1), .ref (fa0 2), .ref (fa0 20), .ref (fa0 21), .ref (fa0 16), .ref (fa0 17), .ref (fa0 22), .ref (fa0 23), .ref (fa0 18), .ref (fa0 24), .ref (fa0 25), .ref (fa0 19), .int 0, .int 0, .int (-1), .int 0, .int 0, .int 0])), ((fa0 16), .inr (5, [.ref (fa0 11), .ref (fa0 2), .ref (fa0 1), .int 0, .int 260, .int 0, .int 0, .int 0, .int (-1), .long 0, .int 0])), ((fa0 2), .inr (1, [.ref (fa0 3), .ref (fa0 4), .ref (fa0 5), .ref (fa0 6), .ref (fa0 7), .ref (fa0 8), .ref (fa0 9), .ref (fa0 31), .ref (fa0 10), .int 1700, .int 3400, .int 1])), ((fa0 17), .inr (7, [.ref (fa0 2), .ref (fa0 1), .ref (fa0 33), .ref (fa0 34), .ref (fa0 35), .ref (fa0 36), .ref (fa0 37), .int 0, .int 0, .int 0, .int 0, .int (-1)]))] (va_A [(h0, .inr (10, [.ref (fa0 0), .ref (fa0 1), .ref (fa0 2), .ref (fa0 20), .ref (fa0 21), .ref (fa0 16), .ref (fa0 17), .ref (fa0 22), .ref (fa0 23), .ref (fa0 18), .ref (fa0 24), .ref (fa0 25), .ref (fa0 19), .int 0, .int 0, .int (-1), .int 0, .int 0, .int 0])), ((fa0 16), .inr (5, [.ref (fa0 11), .ref (fa0 2), .ref (fa0 1), .int 0, .int 260, .int 0, .int 0, .int 0, .int (-1), .long 0, .int 0])), ((fa0 2), .inr (1, [.ref (fa0 3), .ref (fa0 4), .ref (fa0 5), .ref (fa0 6), .ref (fa0 7), .ref (fa0 8), .ref (fa0 9), .ref (fa0 31), .ref (fa0 10), .int 1700, .int 3400, .int 1])), ((fa0 17), .inr (7, [.ref (fa0 2), .ref (fa0 1), .ref (fa0 33), .ref (fa0 34), .ref (fa0 35), .ref (fa0 36), .ref (fa0 37), .int 0, .int 0, .int 0, .int 0, .int 0]))] sz)) (va_A [(h0, .inr (10, [.ref (fa0 0), .ref (fa0 1), .ref (fa0 2), .ref (fa0 20), .ref (fa0 21), .ref (fa0 16), .ref (fa0 17), .ref (fa0 22), .ref (fa0 23), .ref (fa0 18), .ref (fa0 24), .ref (fa0 25), .ref (fa0 19), .int 0, .int 0, .int (-1), .int 0, .int 0, .int 0])), ((fa0 16), .inr (5, [.ref (fa0 11), .ref (fa0 2), .ref (fa0 1), .int 0, .int 260, .int 0, .int 0, .int 0, .int (-1), .long 0, .int 0])), ((fa0 2), .inr (1, [.ref (fa0 3), .ref (fa0 4), .ref (fa0 5), .ref (fa0 6), .ref (fa0 7), .ref (fa0 8), .ref (fa0 9), .ref (fa0 31), .ref (fa0 10), .int 1700, .int 3400, .int 1])), ((fa0 17), .inr (7, [.ref (fa0 2), .ref (fa0 1), .ref (fa0 33), .ref (fa0 34), .ref (fa0 35), .ref (fa0 36), .ref (fa0 37), .int 0, .int 0, .int 0, .int 0, .int 0]))] sz)) 0 0 (va_A [(h0, .inr (10, [.ref (fa0 0), .ref (fa0 1), .ref (fa0 2), .ref (fa0 20), .ref (fa0 21), .ref (fa0 16), .ref (fa0 17), .ref (fa0 22), .ref (fa0 23), .ref (fa0 18), .ref (fa0 24), .ref (fa0 25), .ref (fa0 19), .int 0, .int 0, .int (-1), .int 0, .int 0, .int 0])), ((fa0 16), .inr (5, [.ref (fa0 11), .ref (fa0 2), .ref (fa0 1), .int 0, .int 260, .int 0, .int 0, .int 0, .int (-1), .long 0, .int 0])), ((fa0 2), .inr (1, [.ref (fa0 3), .ref (fa0 4), .ref (fa0 5), .ref (fa0 6), .ref (fa0 7), .ref (fa0 8), .ref (fa0 9), .ref (fa0 31), .ref (fa0 10), .int 1700, .int 3400, .int 1])), ((fa0 17), .inr (7, [.ref (fa0 2), .ref (fa0 1), .ref (fa0 33), .ref (fa0 34), .ref (fa0 35), .ref (fa0 36), .ref (fa0 37), .int 0, .int 0, .int 0, .int 0, .int 0]))] sz) := by
  refine Met.ofW (cc := cX10_isSound) (maxL := 2) (ret := (some .boolean)) (by decide) rfl ?_
  intro p e s m args below meth c s₁ B hml hv
  obtain ⟨rfl, hsz, hP, hK, hD0⟩ := hv
  have hx := B.exec
  have hb := B.bytes
  have hr := B.returns
  have hts := atoms_spec (ws := wq_X10_isSound) B.pre
  have hown : s.vm.findClass RX10 = some m.cls := findClass_of_methodNamed B.named
  have hlocks := B.notSynchronized
  subst hsz
  have hD := hD0.self (sz := s.heap.size)
  generalize hAe : va_A [(h0, .inr (10, [.ref (fa0 0), .ref (fa0 1), .ref (fa0 2), .ref (fa0 20), .ref (fa0 21), .ref (fa0 16), .ref (fa0 17), .ref (fa0 22), .ref (fa0 23), .ref (fa0 18), .ref (fa0 24), .ref (fa0 25), .ref (fa0 19), .int 0, .int 0, .int (-1), .int 0, .int 0, .int 0])), ((fa0 16), .inr (5, [.ref (fa0 11), .ref (fa0 2), .ref (fa0 1), .int 0, .int 260, .int 0, .int 0, .int 0, .int (-1), .long 0, .int 0])), ((fa0 2), .inr (1, [.ref (fa0 3), .ref (fa0 4), .ref (fa0 5), .ref (fa0 6), .ref (fa0 7), .ref (fa0 8), .ref (fa0 9), .ref (fa0 31), .ref (fa0 10), .int 1700, .int 3400, .int 1])), ((fa0 17), .inr (7, [.ref (fa0 2), .ref (fa0 1), .ref (fa0 33), .ref (fa0 34), .ref (fa0 35), .ref (fa0 36), .ref (fa0 37), .int 0, .int 0, .int 0, .int 0, .int 0]))] s.heap.size = A at hD ⊢
  have hA : ∀ q : Nat, s.heap.size ≤ q → A q := fun q h => by rw [← hAe]; exact Or.inr h
  have hS : va_S A s.heap s.heap [] := va_S.rf
  have hP : va_P (dC, dI) vwCl [(h0, .inr (10, [.ref (fa0 0), .ref (fa0 1), .ref (fa0 2), .ref (fa0 20), .ref (fa0 21), .ref (fa0 16), .ref (fa0 17), .ref (fa0 22), .ref (fa0 23), .ref (fa0 18), .ref (fa0 24), .ref (fa0 25), .ref (fa0 19), .int 0, .int 0, .int (-1), .int 0, .int 0, .int 0])), ((fa0 16), .inr (5, [.ref (fa0 11), .ref (fa0 2), .ref (fa0 1), .int 0, .int 260, .int 0, .int 0, .int 0, .int (-1), .long 0, .int 0])), ((fa0 2), .inr (1, [.ref (fa0 3), .ref (fa0 4), .ref (fa0 5), .ref (fa0 6), .ref (fa0 7), .ref (fa0 8), .ref (fa0 9), .ref (fa0 31), .ref (fa0 10), .int 1700, .int 3400, .int 1])), ((fa0 17), .inr (7, [.ref (fa0 2), .ref (fa0 1), .ref (fa0 33), .ref (fa0 34), .ref (fa0 35), .ref (fa0 36), .ref (fa0 37), .int 0, .int 0, .int 0, .int 0, .int 0]))] s.heap := hP
  obtain ⟨H, hH⟩ : ∃ H, H = s.heap := ⟨_, rfl⟩
  rw [← hH] at hP
  have hS : va_S A s.heap H [] := by rw [hH]; exact hS
  have hl := lv_entry ([.ref h0, .int 1700]) (n := 2) (Nat.le_of_ble_eq_true rfl)
  rw [lg_entry_eq]
  generalize (lg_sl ([.ref h0, .int 1700]) ++ List.replicate (2 - (lg_sl ([.ref h0, .int 1700])).length) Slot.unset).toArray = ls at hl ⊢
  have hl : lv_has ls 2 [(0, .ref h0), (1, .int 1700)] := hl
  refine pq_heap hH ?_
  refine lv_aload_n hx hb dX10_isSound_0 rfl (lv_at hl 0 rfl) ?_
  refine lv_aload_n hx hb dX10_isSound_1 rfl (lv_at hl 0 rfl) ?_
  refine va_get (D := (dC, dI)) (ci := 10) (v := .ref (fa0 16)) (C := RX10) (T := TX10) (N := 19) hx hb hts iq_X10_isSound_X10 hown hK hP 0 rfl rfl 5 (by decide) (hts (Cond.fieldLink RX10 51 "CodePress" "parser" "LCodePress$Parser;") (List.mem_of_getElem? (i := 1) rfl)) (fun _ h9 => h9) rfl dX10_isSound_2 ?_
  refine va_get (D := (dC, dI)) (ci := 5) (v := .int 0) (C := RX5) (T := TX5) (N := 11) hx hb hts iq_X10_isSound_X5 hown hK hP 1 rfl rfl 7 (by decide) (hts (Cond.fieldLink RX10 198 "CodePress$Parser" "fault" "I") (List.mem_of_getElem? (i := 2) rfl)) (fun _ h9 => h9) rfl dX10_isSound_5 ?_
  refine va_put (D := (dC, dI)) (ci := 10) (v := .int 0) (ty := .int) (C := RX10) (T := TX10) (N := 19) hx hb hts iq_X10_isSound_X10 tyX10 tyX10_ok nmX10 hown hK hP hD hS 0 rfl rfl 14 (by decide) (hts (Cond.fieldLink RX10 156 "CodePress" "faultKind" "I") (List.mem_of_getElem? (i := 3) rfl)) (fun _ h9 => h9) rfl (by decide +kernel) rfl rfl (Nat.le_of_ble_eq_true rfl) dX10_isSound_8 (fun H locs hP hD hS => ?_)
  have hR9 : pq_R (dC, dI) vwCl A [(h0, .inr (10, [.ref (fa0 0), .ref (fa0 1), .ref (fa0 2), .ref (fa0 20), .ref (fa0 21), .ref (fa0 16), .ref (fa0 17), .ref (fa0 22), .ref (fa0 23), .ref (fa0 18), .ref (fa0 24), .ref (fa0 25), .ref (fa0 19), .int 0, .int 0, .int (-1), .int 0, .int 0, .int 0])), ((fa0 16), .inr (5, [.ref (fa0 11), .ref (fa0 2), .ref (fa0 1), .int 0, .int 260, .int 0, .int 0, .int 0, .int (-1), .long 0, .int 0])), ((fa0 2), .inr (1, [.ref (fa0 3), .ref (fa0 4), .ref (fa0 5), .ref (fa0 6), .ref (fa0 7), .ref (fa0 8), .ref (fa0 9), .ref (fa0 31), .ref (fa0 10), .int 1700, .int 3400, .int 1])), ((fa0 17), .inr (7, [.ref (fa0 2), .ref (fa0 1), .ref (fa0 33), .ref (fa0 34), .ref (fa0 35), .ref (fa0 36), .ref (fa0 37), .int 0, .int 0, .int 0, .int 0, .int 0]))] H := ⟨hP, hD⟩
  have hP := hR9.1
  have hD := hR9.2
  refine lv_aload_n hx hb dX10_isSound_11 rfl (lv_at hl 0 rfl) ?_
  refine lv_aload_n hx hb dX10_isSound_12 rfl (lv_at hl 0 rfl) ?_
  refine va_get (D := (dC, dI)) (ci := 10) (v := .ref (fa0 16)) (C := RX10) (T := TX10) (N := 19) hx hb hts iq_X10_isSound_X10 hown hK hP 0 rfl rfl 5 (by decide) (hts (Cond.fieldLink RX10 51 "CodePress" "parser" "LCodePress$Parser;") (List.mem_of_getElem? (i := 1) rfl)) (fun _ h9 => h9) rfl dX10_isSound_13 ?_
  refine va_get (D := (dC, dI)) (ci := 5) (v := .int (-1)) (C := RX5) (T := TX5) (N := 11) hx hb hts iq_X10_isSound_X5 hown hK hP 1 rfl rfl 8 (by decide) (hts (Cond.fieldLink RX10 201 "CodePress$Parser" "place" "I") (List.mem_of_getElem? (i := 4) rfl)) (fun _ h9 => h9) rfl dX10_isSound_16 ?_
  refine va_put (D := (dC, dI)) (ci := 10) (v := .int (-1)) (ty := .int) (C := RX10) (T := TX10) (N := 19) hx hb hts iq_X10_isSound_X10 tyX10 tyX10_ok nmX10 hown hK hP hD hS 0 rfl rfl 15 (by decide) (hts (Cond.fieldLink RX10 101 "CodePress" "faultPlace" "I") (List.mem_of_getElem? (i := 5) rfl)) (fun _ h9 => h9) rfl (by decide +kernel) rfl rfl (Nat.le_of_ble_eq_true rfl) dX10_isSound_19 (fun H locs hP hD hS => ?_)
  have hR9 : pq_R (dC, dI) vwCl A [(h0, .inr (10, [.ref (fa0 0), .ref (fa0 1), .ref (fa0 2), .ref (fa0 20), .ref (fa0 21), .ref (fa0 16), .ref (fa0 17), .ref (fa0 22), .ref (fa0 23), .ref (fa0 18), .ref (fa0 24), .ref (fa0 25), .ref (fa0 19), .int 0, .int 0, .int (-1), .int 0, .int 0, .int 0])), ((fa0 16), .inr (5, [.ref (fa0 11), .ref (fa0 2), .ref (fa0 1), .int 0, .int 260, .int 0, .int 0, .int 0, .int (-1), .long 0, .int 0])), ((fa0 2), .inr (1, [.ref (fa0 3), .ref (fa0 4), .ref (fa0 5), .ref (fa0 6), .ref (fa0 7), .ref (fa0 8), .ref (fa0 9), .ref (fa0 31), .ref (fa0 10), .int 1700, .int 3400, .int 1])), ((fa0 17), .inr (7, [.ref (fa0 2), .ref (fa0 1), .ref (fa0 33), .ref (fa0 34), .ref (fa0 35), .ref (fa0 36), .ref (fa0 37), .int 0, .int 0, .int 0, .int 0, .int 0]))] H := ⟨hP, hD⟩
  have hP := hR9.1
  have hD := hR9.2
  refine lv_aload_n hx hb dX10_isSound_22 rfl (lv_at hl 0 rfl) ?_
  refine va_get (D := (dC, dI)) (ci := 10) (v := .int 0) (C := RX10) (T := TX10) (N := 19) hx hb hts iq_X10_isSound_X10 hown hK hP 0 rfl rfl 14 (by decide) (hts (Cond.fieldLink RX10 156 "CodePress" "faultKind" "I") (List.mem_of_getElem? (i := 3) rfl)) (fun _ h9 => h9) rfl dX10_isSound_23 ?_
  refine lv_if_ne (tgt := 66) hx hb dX10_isSound_26 (by decide) (fun c_ => absurd (by decide) c_) (fun _ => ?_)
  refine lv_aload_n hx hb dX10_isSound_29 rfl (lv_at hl 0 rfl) ?_
  refine va_get (D := (dC, dI)) (ci := 10) (v := .ref (fa0 17)) (C := RX10) (T := TX10) (N := 19) hx hb hts iq_X10_isSound_X10 hown hK hP 0 rfl rfl 6 (by decide) (hts (Cond.fieldLink RX10 60 "CodePress" "typer" "LCodePress$Typer;") (List.mem_of_getElem? (i := 6) rfl)) (fun _ h9 => h9) rfl dX10_isSound_30 ?_
  refine lv_iload_n hx hb dX10_isSound_33 rfl (lv_at hl 1 rfl) ?_
  refine lv_aload_n hx hb dX10_isSound_34 rfl (lv_at hl 0 rfl) ?_
  refine va_get (D := (dC, dI)) (ci := 10) (v := .ref (fa0 2)) (C := RX10) (T := TX10) (N := 19) hx hb hts iq_X10_isSound_X10 hown hK hP 0 rfl rfl 2 (by decide) (hts (Cond.fieldLink RX10 23 "CodePress" "code" "LCodePress$Code;") (List.mem_of_getElem? (i := 7) rfl)) (fun _ h9 => h9) rfl dX10_isSound_35 ?_
  refine va_get (D := (dC, dI)) (ci := 1) (v := .int 1700) (C := RX1) (T := TX1) (N := 12) hx hb hts iq_X10_isSound_X1 hown hK hP 2 rfl rfl 9 (by decide) (hts (Cond.fieldLink RX10 195 "CodePress$Code" "used" "I") (List.mem_of_getElem? (i := 8) rfl)) (fun _ h9 => h9) rfl dX10_isSound_38 ?_
  refine pq_cv (wr := [(h0, .inr (10, [.ref (fa0 0), .ref (fa0 1), .ref (fa0 2), .ref (fa0 20), .ref (fa0 21), .ref (fa0 16), .ref (fa0 17), .ref (fa0 22), .ref (fa0 23), .ref (fa0 18), .ref (fa0 24), .ref (fa0 25), .ref (fa0 19), .int 0, .int 0, .int (-1), .int 0, .int 0, .int 0])), ((fa0 16), .inr (5, [.ref (fa0 11), .ref (fa0 2), .ref (fa0 1), .int 0, .int 260, .int 0, .int 0, .int 0, .int (-1), .long 0, .int 0])), ((fa0 2), .inr (1, [.ref (fa0 3), .ref (fa0 4), .ref (fa0 5), .ref (fa0 6), .ref (fa0 7), .ref (fa0 8), .ref (fa0 9), .ref (fa0 31), .ref (fa0 10), .int 1700, .int 3400, .int 1]))]) (W1 := (fun u => [((fa0 17), .inr (7, [.ref (fa0 2), .ref (fa0 1), .ref (fa0 33), .ref (fa0 34), .ref (fa0 35), .ref (fa0 36), .ref (fa0 37), .int 0, .int 0, .int 0, .int 0, .int (-1)]))])) (va_runV (As := [.int 1700, .int 1700]) (rest := []) ⟨hx, hb, hml, hown, hts⟩ (cq_X7_check l dC dI cB cI cJ cZ fa0 H.size) (cwV 2 hts gq_X10_isSound_X7_check_204 rfl rfl rfl (by decide +kernel) ⟨(by decide +kernel), (by decide +kernel)⟩) ⟨pq_blind, va_recv hK hP (ci := 7) (q0 := 3) rfl rfl, pq_pre hK hP hD [3] rfl rfl⟩ rfl rfl hl.1 rfl (lv_room (Nat.le_of_ble_eq_true rfl)) dX10_isSound_41 ⟨(by decide +kernel), (by decide +kernel)⟩) hP hD hS hA [3] [0, 1, 2] rfl rfl rfl (by decide) (fun u1 H locs hw hP hD hS => ?_)
  have hR9 : pq_R (dC, dI) vwCl A [(h0, .inr (10, [.ref (fa0 0), .ref (fa0 1), .ref (fa0 2), .ref (fa0 20), .ref (fa0 21), .ref (fa0 16), .ref (fa0 17), .ref (fa0 22), .ref (fa0 23), .ref (fa0 18), .ref (fa0 24), .ref (fa0 25), .ref (fa0 19), .int 0, .int 0, .int (-1), .int 0, .int 0, .int 0])), ((fa0 16), .inr (5, [.ref (fa0 11), .ref (fa0 2), .ref (fa0 1), .int 0, .int 260, .int 0, .int 0, .int 0, .int (-1), .long 0, .int 0])), ((fa0 2), .inr (1, [.ref (fa0 3), .ref (fa0 4), .ref (fa0 5), .ref (fa0 6), .ref (fa0 7), .ref (fa0 8), .ref (fa0 9), .ref (fa0 31), .ref (fa0 10), .int 1700, .int 3400, .int 1])), ((fa0 17), .inr (7, [.ref (fa0 2), .ref (fa0 1), .ref (fa0 33), .ref (fa0 34), .ref (fa0 35), .ref (fa0 36), .ref (fa0 37), .int 0, .int 0, .int 0, .int 0, .int (-1)]))] H := ⟨hP, hD⟩
  have hP := hR9.1
  have hD := hR9.2
  refine W.widen (k := 0) (n := 0) (by decide +kernel) (by decide +kernel) ?_
  refine lv_aload_n hx hb dX10_isSound_44 rfl (lv_at hl 0 rfl) ?_
  refine lv_aload_n hx hb dX10_isSound_45 rfl (lv_at hl 0 rfl) ?_
  refine va_get (D := (dC, dI)) (ci := 10) (v := .ref (fa0 17)) (C := RX10) (T := TX10) (N := 19) hx hb hts iq_X10_isSound_X10 hown hK hP 0 rfl rfl 6 (by decide) (hts (Cond.fieldLink RX10 60 "CodePress" "typer" "LCodePress$Typer;") (List.mem_of_getElem? (i := 6) rfl)) (fun _ h9 => h9) rfl dX10_isSound_46 ?_
  refine va_get (D := (dC, dI)) (ci := 7) (v := .int 0) (C := RX7) (T := TX7) (N := 12) hx hb hts iq_X10_isSound_X7 hown hK hP 3 rfl rfl 10 (by decide) (hts (Cond.fieldLink RX10 207 "CodePress$Typer" "fault" "I") (List.mem_of_getElem? (i := 19) rfl)) (fun _ h9 => h9) rfl dX10_isSound_49 ?_
  refine va_put (D := (dC, dI)) (ci := 10) (v := .int 0) (ty := .int) (C := RX10) (T := TX10) (N := 19) hx hb hts iq_X10_isSound_X10 tyX10 tyX10_ok nmX10 hown hK hP hD hS 0 rfl rfl 14 (by decide) (hts (Cond.fieldLink RX10 156 "CodePress" "faultKind" "I") (List.mem_of_getElem? (i := 3) rfl)) (fun _ h9 => h9) rfl (by decide +kernel) rfl rfl (Nat.le_of_ble_eq_true rfl) dX10_isSound_52 (fun H locs hP hD hS => ?_)
  have hR9 : pq_R (dC, dI) vwCl A [(h0, .inr (10, [.ref (fa0 0), .ref (fa0 1), .ref (fa0 2), .ref (fa0 20), .ref (fa0 21), .ref (fa0 16), .ref (fa0 17), .ref (fa0 22), .ref (fa0 23), .ref (fa0 18), .ref (fa0 24), .ref (fa0 25), .ref (fa0 19), .int 0, .int 0, .int (-1), .int 0, .int 0, .int 0])), ((fa0 16), .inr (5, [.ref (fa0 11), .ref (fa0 2), .ref (fa0 1), .int 0, .int 260, .int 0, .int 0, .int 0, .int (-1), .long 0, .int 0])), ((fa0 2), .inr (1, [.ref (fa0 3), .ref (fa0 4), .ref (fa0 5), .ref (fa0 6), .ref (fa0 7), .ref (fa0 8), .ref (fa0 9), .ref (fa0 31), .ref (fa0 10), .int 1700, .int 3400, .int 1])), ((fa0 17), .inr (7, [.ref (fa0 2), .ref (fa0 1), .ref (fa0 33), .ref (fa0 34), .ref (fa0 35), .ref (fa0 36), .ref (fa0 37), .int 0, .int 0, .int 0, .int 0, .int (-1)]))] H := ⟨hP, hD⟩
  have hP := hR9.1
  have hD := hR9.2
  refine lv_aload_n hx hb dX10_isSound_55 rfl (lv_at hl 0 rfl) ?_
  refine lv_aload_n hx hb dX10_isSound_56 rfl (lv_at hl 0 rfl) ?_
  refine va_get (D := (dC, dI)) (ci := 10) (v := .ref (fa0 17)) (C := RX10) (T := TX10) (N := 19) hx hb hts iq_X10_isSound_X10 hown hK hP 0 rfl rfl 6 (by decide) (hts (Cond.fieldLink RX10 60 "CodePress" "typer" "LCodePress$Typer;") (List.mem_of_getElem? (i := 6) rfl)) (fun _ h9 => h9) rfl dX10_isSound_57 ?_
  refine va_get (D := (dC, dI)) (ci := 7) (v := .int (-1)) (C := RX7) (T := TX7) (N := 12) hx hb hts iq_X10_isSound_X7 hown hK hP 3 rfl rfl 11 (by decide) (hts (Cond.fieldLink RX10 208 "CodePress$Typer" "place" "I") (List.mem_of_getElem? (i := 20) rfl)) (fun _ h9 => h9) rfl dX10_isSound_60 ?_
  refine va_put (D := (dC, dI)) (ci := 10) (v := .int (-1)) (ty := .int) (C := RX10) (T := TX10) (N := 19) hx hb hts iq_X10_isSound_X10 tyX10 tyX10_ok nmX10 hown hK hP hD hS 0 rfl rfl 15 (by decide) (hts (Cond.fieldLink RX10 101 "CodePress" "faultPlace" "I") (List.mem_of_getElem? (i := 5) rfl)) (fun _ h9 => h9) rfl (by decide +kernel) rfl rfl (Nat.le_of_ble_eq_true rfl) dX10_isSound_63 (fun H locs hP hD hS => ?_)
  have hR9 : pq_R (dC, dI) vwCl A [(h0, .inr (10, [.ref (fa0 0), .ref (fa0 1), .ref (fa0 2), .ref (fa0 20), .ref (fa0 21), .ref (fa0 16), .ref (fa0 17), .ref (fa0 22), .ref (fa0 23), .ref (fa0 18), .ref (fa0 24), .ref (fa0 25), .ref (fa0 19), .int 0, .int 0, .int (-1), .int 0, .int 0, .int 0])), ((fa0 16), .inr (5, [.ref (fa0 11), .ref (fa0 2), .ref (fa0 1), .int 0, .int 260, .int 0, .int 0, .int 0, .int (-1), .long 0, .int 0])), ((fa0 2), .inr (1, [.ref (fa0 3), .ref (fa0 4), .ref (fa0 5), .ref (fa0 6), .ref (fa0 7), .ref (fa0 8), .ref (fa0 9), .ref (fa0 31), .ref (fa0 10), .int 1700, .int 3400, .int 1])), ((fa0 17), .inr (7, [.ref (fa0 2), .ref (fa0 1), .ref (fa0 33), .ref (fa0 34), .ref (fa0 35), .ref (fa0 36), .ref (fa0 37), .int 0, .int 0, .int 0, .int 0, .int (-1)]))] H := ⟨hP, hD⟩
  have hP := hR9.1
  have hD := hR9.2
  refine lv_aload_n hx hb dX10_isSound_66 rfl (lv_at hl 0 rfl) ?_
  refine va_get (D := (dC, dI)) (ci := 10) (v := .int 0) (C := RX10) (T := TX10) (N := 19) hx hb hts iq_X10_isSound_X10 hown hK hP 0 rfl rfl 14 (by decide) (hts (Cond.fieldLink RX10 156 "CodePress" "faultKind" "I") (List.mem_of_getElem? (i := 3) rfl)) (fun _ h9 => h9) rfl dX10_isSound_67 ?_
  refine lv_if_ne (tgt := 78) hx hb dX10_isSound_70 (by decide) (fun c_ => absurd (by decide) c_) (fun _ => ?_)
  refine lv_aload_n hx hb dX10_isSound_73 rfl (lv_at hl 0 rfl) ?_
  refine lv_iconst (v := (-1)) hx hb dX10_isSound_74 (by decide) ?_
  refine va_put (D := (dC, dI)) (ci := 10) (v := .int (-1)) (ty := .int) (C := RX10) (T := TX10) (N := 19) hx hb hts iq_X10_isSound_X10 tyX10 tyX10_ok nmX10 hown hK hP hD hS 0 rfl rfl 15 (by decide) (hts (Cond.fieldLink RX10 101 "CodePress" "faultPlace" "I") (List.mem_of_getElem? (i := 5) rfl)) (fun _ h9 => h9) rfl (by decide +kernel) rfl rfl (Nat.le_of_ble_eq_true rfl) dX10_isSound_75 (fun H locs hP hD hS => ?_)
  have hR9 : pq_R (dC, dI) vwCl A [(h0, .inr (10, [.ref (fa0 0), .ref (fa0 1), .ref (fa0 2), .ref (fa0 20), .ref (fa0 21), .ref (fa0 16), .ref (fa0 17), .ref (fa0 22), .ref (fa0 23), .ref (fa0 18), .ref (fa0 24), .ref (fa0 25), .ref (fa0 19), .int 0, .int 0, .int (-1), .int 0, .int 0, .int 0])), ((fa0 16), .inr (5, [.ref (fa0 11), .ref (fa0 2), .ref (fa0 1), .int 0, .int 260, .int 0, .int 0, .int 0, .int (-1), .long 0, .int 0])), ((fa0 2), .inr (1, [.ref (fa0 3), .ref (fa0 4), .ref (fa0 5), .ref (fa0 6), .ref (fa0 7), .ref (fa0 8), .ref (fa0 9), .ref (fa0 31), .ref (fa0 10), .int 1700, .int 3400, .int 1])), ((fa0 17), .inr (7, [.ref (fa0 2), .ref (fa0 1), .ref (fa0 33), .ref (fa0 34), .ref (fa0 35), .ref (fa0 36), .ref (fa0 37), .int 0, .int 0, .int 0, .int 0, .int (-1)]))] H := ⟨hP, hD⟩
  have hP := hR9.1
  have hD := hR9.2
  refine lv_aload_n hx hb dX10_isSound_78 rfl (lv_at hl 0 rfl) ?_
  refine va_get (D := (dC, dI)) (ci := 10) (v := .int 0) (C := RX10) (T := TX10) (N := 19) hx hb hts iq_X10_isSound_X10 hown hK hP 0 rfl rfl 14 (by decide) (hts (Cond.fieldLink RX10 156 "CodePress" "faultKind" "I") (List.mem_of_getElem? (i := 3) rfl)) (fun _ h9 => h9) rfl dX10_isSound_79 ?_
  refine lv_if_ne (tgt := 89) hx hb dX10_isSound_82 (by decide) (fun c_ => absurd (by decide) c_) (fun _ => ?_)
  refine lv_iconst (v := 1) hx hb dX10_isSound_85 (by decide) ?_
  refine lv_goto (tgt := 90) hx hb dX10_isSound_86 (by decide) ?_
  have hP9 := pq_P.pick (wc := [(h0, .inr (10, [.ref (fa0 0), .ref (fa0 1), .ref (fa0 2), .ref (fa0 20), .ref (fa0 21), .ref (fa0 16), .ref (fa0 17), .ref (fa0 22), .ref (fa0 23), .ref (fa0 18), .ref (fa0 24), .ref (fa0 25), .ref (fa0 19), .int 0, .int 0, .int (-1), .int 0, .int 0, .int 0])), ((fa0 16), .inr (5, [.ref (fa0 11), .ref (fa0 2), .ref (fa0 1), .int 0, .int 260, .int 0, .int 0, .int 0, .int (-1), .long 0, .int 0])), ((fa0 2), .inr (1, [.ref (fa0 3), .ref (fa0 4), .ref (fa0 5), .ref (fa0 6), .ref (fa0 7), .ref (fa0 8), .ref (fa0 9), .ref (fa0 31), .ref (fa0 10), .int 1700, .int 3400, .int 1])), ((fa0 17), .inr (7, [.ref (fa0 2), .ref (fa0 1), .ref (fa0 33), .ref (fa0 34), .ref (fa0 35), .ref (fa0 36), .ref (fa0 37), .int 0, .int 0, .int 0, .int 0, .int (-1)]))]) hP [0, 1, 2, 3] rfl
  have hD9 := hD.sub (ws' := [(h0, .inr (10, [.ref (fa0 0), .ref (fa0 1), .ref (fa0 2), .ref (fa0 20), .ref (fa0 21), .ref (fa0 16), .ref (fa0 17), .ref (fa0 22), .ref (fa0 23), .ref (fa0 18), .ref (fa0 24), .ref (fa0 25), .ref (fa0 19), .int 0, .int 0, .int (-1), .int 0, .int 0, .int 0])), ((fa0 16), .inr (5, [.ref (fa0 11), .ref (fa0 2), .ref (fa0 1), .int 0, .int 260, .int 0, .int 0, .int 0, .int (-1), .long 0, .int 0])), ((fa0 2), .inr (1, [.ref (fa0 3), .ref (fa0 4), .ref (fa0 5), .ref (fa0 6), .ref (fa0 7), .ref (fa0 8), .ref (fa0 9), .ref (fa0 31), .ref (fa0 10), .int 1700, .int 3400, .int 1])), ((fa0 17), .inr (7, [.ref (fa0 2), .ref (fa0 1), .ref (fa0 33), .ref (fa0 34), .ref (fa0 35), .ref (fa0 36), .ref (fa0 37), .int 0, .int 0, .int 0, .int 0, .int (-1)]))]) [0, 1, 2, 3] (by decide) rfl
  refine W.widen (k := 0) (n := 0) (by decide +kernel) (by decide +kernel) ?_
  exact W.zret (v := 1) hx hb hr rfl (fun t ht hW => ⟨⟨1, sq_u [] [], rfl, rfl, pq_B.of ht hP9 hD9⟩, hS.F ht⟩) hS.2.2 dX10_isSound_90
def wq_X10_load_r1 : List Cond := [Cond.fieldLink RX10 105 "CodePress" "tapeSize" "I", Cond.fieldLink RX10 23 "CodePress" "code" "LCodePress$Code;", Cond.fieldLink RX10 112 "CodePress$Code" "known" "I", Cond.code yX10_startText cX10_startText 2 (some .int), Cond.code yX1_startHalf cX1_startHalf 2 none, Cond.fieldLink RX1 44 "CodePress$Code" "used" "I", Cond.fieldLink RX1 40 "CodePress$Code" "limit" "I", Cond.methodLink RX10 191 yX1_startHalf, Cond.instanceMethod yX1_startHalf, Cond.selects RX1 yX1_startHalf yX1_startHalf, Cond.initialized RX1, Cond.fieldLink RX10 16 "CodePress" "types" "LCodePress$Types;", Cond.code yX8_startHalf cX8_startHalf 2 none, Cond.fieldLink RX8 28 "CodePress$Types" "used" "I", Cond.fieldLink RX8 32 "CodePress$Types" "limit" "I", Cond.methodLink RX10 194 yX8_startHalf, Cond.instanceMethod yX8_startHalf, Cond.selects RX8 yX8_startHalf yX8_startHalf, Cond.initialized RX8, Cond.fieldLink RX10 195 "CodePress$Code" "used" "I", Cond.methodLink RX10 115 yX10_startText, Cond.instanceMethod yX10_startText, Cond.selects RX10 yX10_startText yX10_startText, Cond.initialized RX10]
def wq_X10_load_r2 : List Cond := [Cond.code yX1_startDefs cX1_startDefs 2 none, Cond.fieldLink RX1 47 "CodePress$Code" "known" "I", Cond.fieldLink RX1 37 "CodePress$Code" "defCount" "[I", Cond.methodLink RX10 119 yX1_startDefs, Cond.instanceMethod yX1_startDefs, Cond.selects RX1 yX1_startDefs yX1_startDefs, Cond.fieldLink RX10 51 "CodePress" "parser" "LCodePress$Parser;", Cond.code yX5_readProgram cX5_readProgram 3 none, Cond.code yX5_start cX5_start 2 none, Cond.fieldLink RX5 49 "CodePress$Parser" "tokens" "I", Cond.fieldLink RX5 52 "CodePress$Parser" "open" "I", Cond.fieldLink RX5 55 "CodePress$Parser" "fault" "I", Cond.fieldLink RX5 58 "CodePress$Parser" "place" "I", Cond.fieldLink RX5 9 "CodePress$Parser" "lexer" "LCodePress$Lexer;", Cond.code yX2_read cX2_read 3 none, Cond.fieldLink RX2 28 "CodePress$Lexer" "text" "[B", Cond.methodLink RX2 44 Lib.Math.min.name, Cond.static Lib.Math.min.name, Cond.initialized "java/lang/Math", Cond.code Lib.Math.min.name Lib.Math.min.code 2 (some .int), Cond.fieldLink RX2 50 "CodePress$Lexer" "size" "I", Cond.fieldLink RX2 54 "CodePress$Lexer" "pos" "I", Cond.fieldLink RX2 57 "CodePress$Lexer" "kind" "I", Cond.code yX2_next cX2_next 1 none]
def wq_X10_load_r3 : List Cond := [Cond.fieldLink RX2 63 "CodePress$Lexer" "at" "I", Cond.methodLink RX2 60 yX2_next, Cond.instanceMethod yX2_next, Cond.selects RX2 yX2_next yX2_next, Cond.initialized RX2, Cond.fieldLink RX2 15 "CodePress$Lexer" "kinds" "[I", Cond.fieldLink RX2 19 "CodePress$Lexer" "places" "[I", Cond.fieldLink RX2 22 "CodePress$Lexer" "numbers" "[I", Cond.fieldLink RX2 66 "CodePress$Lexer" "number" "I", Cond.fieldLink RX2 25 "CodePress$Lexer" "names" "[J", Cond.fieldLink RX2 69 "CodePress$Lexer" "name" "J", Cond.methodLink RX5 61 yX2_read, Cond.instanceMethod yX2_read, Cond.selects RX2 yX2_read yX2_read, Cond.fieldLink RX5 64 "CodePress$Lexer" "kinds" "[I", Cond.fieldLink RX5 27 "CodePress$Parser" "kind" "I", Cond.fieldLink RX5 68 "CodePress$Lexer" "places" "[I", Cond.fieldLink RX5 71 "CodePress$Parser" "at" "I", Cond.methodLink RX5 23 yX5_start, Cond.instanceMethod yX5_start, Cond.selects RX5 yX5_start yX5_start, Cond.initialized RX5, Cond.methodLink RX10 122 yX5_readProgram, Cond.instanceMethod yX5_readProgram]
def wq_X10_load_r4 : List Cond := [Cond.selects RX5 yX5_readProgram yX5_readProgram, Cond.code yX10_isSound cX10_isSound 2 (some .boolean), Cond.fieldLink RX10 198 "CodePress$Parser" "fault" "I", Cond.fieldLink RX10 156 "CodePress" "faultKind" "I", Cond.fieldLink RX10 201 "CodePress$Parser" "place" "I", Cond.fieldLink RX10 101 "CodePress" "faultPlace" "I", Cond.fieldLink RX10 60 "CodePress" "typer" "LCodePress$Typer;", Cond.code yX7_check cX7_check 4 none, Cond.fieldLink RX7 36 "CodePress$Typer" "top" "I", Cond.fieldLink RX7 40 "CodePress$Typer" "told" "I", Cond.fieldLink RX7 43 "CodePress$Typer" "level" "I", Cond.fieldLink RX7 46 "CodePress$Typer" "fault" "I", Cond.fieldLink RX7 49 "CodePress$Typer" "place" "I", Cond.methodLink RX10 204 yX7_check, Cond.instanceMethod yX7_check, Cond.selects RX7 yX7_check yX7_check, Cond.initialized RX7, Cond.fieldLink RX10 207 "CodePress$Typer" "fault" "I", Cond.fieldLink RX10 208 "CodePress$Typer" "place" "I", Cond.methodLink RX10 125 yX10_isSound, Cond.instanceMethod yX10_isSound, Cond.selects RX10 yX10_isSound yX10_isSound, Cond.fieldLink RX10 129 "CodePress$Code" "defCount" "[I"]
def wq_X10_load : List Cond := Cond.code yX10_load cX10_load 4 (some .int) :: ((wq_X10_load_r1 ++ (wq_X10_load_r2 ++ (wq_X10_load_r3 ++ wq_X10_load_r4))) ++ wsX100 ++ wsX10 ++ wsX80 ++ wsX50 ++ wsX20 ++ wsX70)
theorem iq_X10_load_X10 : ∀ w ∈ wsX100, w ∈ wq_X10_load := fun _ h => List.mem_cons_of_mem _ (List.mem_append_left _ (List.mem_append_left _ (List.mem_append_left _ (List.mem_append_left _ (List.mem_append_left _ (List.mem_append_right _ h))))))
theorem iq_X10_load_X1 : ∀ w ∈ wsX10, w ∈ wq_X10_load := fun _ h => List.mem_cons_of_mem _ (List.mem_append_left _ (List.mem_append_left _ (List.mem_append_left _ (List.mem_append_left _ (List.mem_append_right _ h)))))
theorem iq_X10_load_X8 : ∀ w ∈ wsX80, w ∈ wq_X10_load := fun _ h => List.mem_cons_of_mem _ (List.mem_append_left _ (List.mem_append_left _ (List.mem_append_left _ (List.mem_append_right _ h))))
theorem iq_X10_load_X5 : ∀ w ∈ wsX50, w ∈ wq_X10_load := fun _ h => List.mem_cons_of_mem _ (List.mem_append_left _ (List.mem_append_left _ (List.mem_append_right _ h)))
theorem iq_X10_load_X2 : ∀ w ∈ wsX20, w ∈ wq_X10_load := fun _ h => List.mem_cons_of_mem _ (List.mem_append_left _ (List.mem_append_right _ h))
theorem iq_X10_load_X7 : ∀ w ∈ wsX70, w ∈ wq_X10_load := fun _ h => List.mem_cons_of_mem _ (List.mem_append_right _ h)
set_option maxRecDepth 20000 in
theorem gq_X10_load_X10_startText_115_0 : GoodIn wq_X10_load (Cond.code yX10_startText cX10_startText 2 (some .int) :: wq_X10_startText_r1) := goodIn_r _ [4, 2, 3, 5, 6, 7, 8, 9, 10, 11, 12, 13, 14, 15, 16, 17, 18, 19, 20] (by decide +kernel) (by decide +kernel)
set_option maxRecDepth 20000 in
theorem gq_X10_load_X10_startText_115 : GoodIn wq_X10_load (wsV RX10 115 RX10 yX10_startText wq_X10_startText) := goodIn_app (goodIn_r _ [21, 22, 23, 24] (by decide +kernel) (by decide +kernel)) (goodIn_ca (goodIn_ca (goodIn_ca gq_X10_load_X10_startText_115_0 (goodIn_sub iq_X10_load_X10 guX10)) (goodIn_sub iq_X10_load_X1 guX1)) (goodIn_sub iq_X10_load_X8 guX8))
set_option maxRecDepth 20000 in
theorem gq_X10_load_X1_startDefs_119_0 : GoodIn wq_X10_load (Cond.code yX1_startDefs cX1_startDefs 2 none :: wq_X1_startDefs_r1) := goodIn_r _ [25, 26, 27] (by decide +kernel) (by decide +kernel)
set_option maxRecDepth 20000 in
theorem gq_X10_load_X1_startDefs_119 : GoodIn wq_X10_load (wsV RX10 119 RX1 yX1_startDefs wq_X1_startDefs) := goodIn_app (goodIn_r _ [28, 29, 30, 11] (by decide +kernel) (by decide +kernel)) (goodIn_ca gq_X10_load_X1_startDefs_119_0 (goodIn_sub iq_X10_load_X1 guX1))
set_option maxRecDepth 20000 in
theorem gq_X10_load_X5_readProgram_122_0 : GoodIn wq_X10_load (Cond.code yX5_readProgram cX5_readProgram 3 none :: (wq_X5_readProgram_r1 ++ wq_X5_readProgram_r2)) := goodIn_r _ [32, 33, 34, 35, 36, 37, 38, 39, 40, 41, 42, 43, 44, 45, 46, 47, 48, 49, 50, 51, 52, 53, 54, 55, 56, 57, 58, 59, 60, 61, 62, 63, 64, 65, 66, 67, 68, 69, 70] (by decide +kernel) (by decide +kernel)
set_option maxRecDepth 20000 in
theorem gq_X10_load_X5_readProgram_122 : GoodIn wq_X10_load (wsV RX10 122 RX5 yX5_readProgram wq_X5_readProgram) := goodIn_app (goodIn_r _ [71, 72, 73, 70] (by decide +kernel) (by decide +kernel)) (goodIn_ca (goodIn_ca gq_X10_load_X5_readProgram_122_0 (goodIn_sub iq_X10_load_X5 guX5)) (goodIn_sub iq_X10_load_X2 guX2))
set_option maxRecDepth 20000 in
theorem gq_X10_load_X10_isSound_125_0 : GoodIn wq_X10_load (Cond.code yX10_isSound cX10_isSound 2 (some .boolean) :: wq_X10_isSound_r1) := goodIn_r _ [74, 31, 75, 76, 77, 78, 79, 2, 20, 80, 81, 82, 83, 84, 85, 86, 87, 88, 89, 90, 91] (by decide +kernel) (by decide +kernel)
set_option maxRecDepth 20000 in
theorem gq_X10_load_X10_isSound_125 : GoodIn wq_X10_load (wsV RX10 125 RX10 yX10_isSound wq_X10_isSound) := goodIn_app (goodIn_r _ [92, 93, 94, 24] (by decide +kernel) (by decide +kernel)) (goodIn_ca (goodIn_ca (goodIn_ca (goodIn_ca gq_X10_load_X10_isSound_125_0 (goodIn_sub iq_X10_load_X10 guX10)) (goodIn_sub iq_X10_load_X5 guX5)) (goodIn_sub iq_X10_load_X1 guX1)) (goodIn_sub iq_X10_load_X7 guX7))
set_option maxHeartbeats 4000000 in
set_option maxRecDepth 100000 in
theorem cq_X10_load (l : Launch) (dC : Nat → ClassId) (dI : Nat → Nat → Nat) (cB cI cJ cZ : ClassId) (h0 : Nat) (fa0 : Nat → Nat) (sz : Nat) : Met l yX10_load wq_X10_load ({ frames := 4, cells := 0, slots := 0, locals := 86 }) (va_Pc [.ref h0, .int 0] (pq_W (dC, dI) vwCl (tyQ cB cI cJ cZ) [(h0, .inr (10, [.ref (fa0 0), .ref (fa0 1), .ref (fa0 2), .ref (fa0 20), .ref (fa0 21), .ref (fa0 16), .ref (fa0 17), .ref (fa0 22), .ref (fa0 23), .ref (fa0 18), .ref (fa0 24), .ref (fa0 25), .ref (fa0 19), .int 0, .int 0, .int (-1), .int 0, .int 0, .int 0])), ((fa0 2), .inr (1, [.ref (fa0 3), .ref (fa0 4), .ref (fa0 5), .ref (fa0 6), .ref (fa0 7), .ref (fa0 8), .ref (fa0 9), .ref (fa0 31), .ref (fa0 10), .int 0, .int 1700, .int 0])), ((fa0 1), .inr (8, [.ref (fa0 26), .ref (fa0 27), .ref (fa0 28), .ref (fa0 29), .ref (fa0 30), .int 2, .int 1802])), ((fa0 10), .inl (cI, 2, .inl (fun _ => 0))), ((fa0 16), .inr (5, [.ref (fa0 11), .ref (fa0 2), .ref (fa0 1), .int 0, .int 0, .int 0, .int 0, .int 0, .int 0, .long 0, .int 0])), ((fa0 11), .inr (2, [.ref (fa0 0), .ref (fa0 32), .ref (fa0 12), .ref (fa0 13), .ref (fa0 14), .ref (fa0 15), .int 0, .int 0, .int 0, .int 0, .int 0, .long 0])), ((fa0 0), .inl (cB, 3000, .inl (fun _ => 0))), ((fa0 12), .inl (cI, 801, .inl (fun _ => 0))), ((fa0 13), .inl (cI, 801, .inl (fun _ => 0))), ((fa0 14), .inl (cI, 801, .inl (fun _ => 0))), ((fa0 15), .inl (cJ, 801, .inr (.inl (fun _ => 0)))), ((fa0 17), .inr (7, [.ref (fa0 2), .ref (fa0 1), .ref (fa0 33), .ref (fa0 34), .ref (fa0 35), .ref (fa0 36), .ref (fa0 37), .int 0, .int 0, .int 0, .int 0, .int 0]))] sz)) (va_Qi (fun (r : Int32) (_ : SQ) => r = 0) (fun u => pq_B (dC, dI) vwCl [((fa0 1), .inr (8, [.ref (fa0 26), .ref (fa0 27), .ref (fa0 28), .ref (fa0 29), .ref (fa0 30), .int 1802, .int 3602])), ((fa0 10), .inl (cI, 2, .inl (upd (fun _ => 0) 1 0))), ((fa0 0), .inl (cB, 3000, .inl (fun _ => 0))), ((fa0 12), .inl (cI, 801, .inl (upd (fun _ => 0) 0 260))), ((fa0 13), .inl (cI, 801, .inl (upd (fun _ => 0) 0 0))), ((fa0 14), .inl (cI, 801, .inl (upd (fun _ => 0) 0 0))), ((fa0 15), .inl (cJ, 801, .inr (.inl (vp_updL (fun _ => 0) 0 0)))), ((fa0 11), .inr (2, [.ref (fa0 0), .ref (fa0 32), .ref (fa0 12), .ref (fa0 13), .ref (fa0 14), .ref (fa0 15), .int 0, .int 0, .int 260, .int 0, .int 0, .long 0])), (h0, .inr (10, [.ref (fa0 0), .ref (fa0 1), .ref (fa0 2), .ref (fa0 20), .ref (fa0 21), .ref (fa0 16), .ref (fa0 17), .ref (fa0 22), .ref (fa0 23), .ref (fa0 18), .ref (fa0 24), .ref (fa0 25), .ref (fa0 19), .int 0, .int 0, .int (-1), .int 0, .int 0, .int 0])), ((fa0 16), .inr (5, [.ref (fa0 11), .ref (fa0 2), .ref (fa0 1), .int 0, .int 260, .int 0, .int 0, .int 0, .int (-1), .long 0, .int 0])), ((fa0 2), .inr (1, [.ref (fa0 3), .ref (fa0 4), .ref (fa0 5), .ref (fa0 6), .ref (fa0 7), .ref (fa0 8), .ref (fa0 9), .ref (fa0 31), .ref (fa0 10), .int 1700, .int 3400, .int 1])), ((fa0 17), .inr (7, [.ref (fa0 2), .ref (fa0 1), .ref (fa0 33), .ref (fa0 34), .ref (fa0 35), .ref (fa0 36), .ref (fa0 37), .int 0, .int 0, .int 0, .int 0, .int (-1)]))] (va_A [(h0, .inr (10, [.ref (fa0 0), .ref (fa0 1), .ref (fa0 2), .ref (fa0 20), .ref (fa0 21), .ref (fa0 16), .ref (fa0 17), .ref (fa0 22), .ref (fa0 23), .ref (fa0 18), .ref (fa0 24), .ref (fa0 25), .ref (fa0 19), .int 0, .int 0, .int (-1), .int 0, .int 0, .int 0])), ((fa0 2), .inr (1, [.ref (fa0 3), .ref (fa0 4), .ref (fa0 5), .ref (fa0 6), .ref (fa0 7), .ref (fa0 8), .ref (fa0 9), .ref (fa0 31), .ref (fa0 10), .int 0, .int 1700, .int 0])), ((fa0 1), .inr (8, [.ref (fa0 26), .ref (fa0 27), .ref (fa0 28), .ref (fa0 29), .ref (fa0 30), .int 2, .int 1802])), ((fa0 10), .inl (cI, 2, .inl (fun _ => 0))), ((fa0 16), .inr (5, [.ref (fa0 11), .ref (fa0 2), .ref (fa0 1), .int 0, .int 0, .int 0, .int 0, .int 0, .int 0, .long 0, .int 0])), ((fa0 11), .inr (2, [.ref (fa0 0), .ref (fa0 32), .ref (fa0 12), .ref (fa0 13), .ref (fa0 14), .ref (fa0 15), .int 0, .int 0, .int 0, .int 0, .int 0, .long 0])), ((fa0 0), .inl (cB, 3000, .inl (fun _ => 0))), ((fa0 12), .inl (cI, 801, .inl (fun _ => 0))), ((fa0 13), .inl (cI, 801, .inl (fun _ => 0))), ((fa0 14), .inl (cI, 801, .inl (fun _ => 0))), ((fa0 15), .inl (cJ, 801, .inr (.inl (fun _ => 0)))), ((fa0 17), .inr (7, [.ref (fa0 2), .ref (fa0 1), .ref (fa0 33), .ref (fa0 34), .ref (fa0 35), .ref (fa0 36), .ref (fa0 37), .int 0, .int 0, .int 0, .int 0, .int 0]))] sz)) (va_A [(h0, .inr (10, [.ref (fa0 0), .ref (fa0 1), .ref (fa0 2), .ref (fa0 20), .ref (fa0 21), .ref (fa0 16), .ref (fa0 17), .ref (fa0 22), .ref (fa0 23), .ref (fa0 18), .ref (fa0 24), .ref (fa0 25), .ref (fa0 19), .int 0, .int 0, .int (-1), .int 0, .int 0, .int 0])), ((fa0 2), .inr (1, [.ref (fa0 3), .ref (fa0 4), .ref (fa0 5), .ref (fa0 6), .ref (fa0 7), .ref (fa0 8), .ref (fa0 9), .ref (fa0 31), .ref (fa0 10), .int 0, .int 1700, .int 0])), ((fa0 1), .inr (8, [.ref (fa0 26), .ref (fa0 27), .ref (fa0 28), .ref (fa0 29), .ref (fa0 30), .int 2, .int 1802])), ((fa0 10), .inl (cI, 2, .inl (fun _ => 0))), ((fa0 16), .inr (5, [.ref (fa0 11), .ref (fa0 2), .ref (fa0 1), .int 0, .int 0, .int 0, .int 0, .int 0, .int 0, .long 0, .int 0])), ((fa0 11), .inr (2, [.ref (fa0 0), .ref (fa0 32), .ref (fa0 12), .ref (fa0 13), .ref (fa0 14), .ref (fa0 15), .int 0, .int 0, .int 0, .int 0, .int 0, .long 0])), ((fa0 0), .inl (cB, 3000, .inl (fun _ => 0))), ((fa0 12), .inl (cI, 801, .inl (fun _ => 0))), ((fa0 13), .inl (cI, 801, .inl (fun _ => 0))), ((fa0 14), .inl (cI, 801, .inl (fun _ => 0))), ((fa0 15), .inl (cJ, 801, .inr (.inl (fun _ => 0)))), ((fa0 17), .inr (7, [.ref (fa0 2), .ref (fa0 1), .ref (fa0 33), .ref (fa0 34), .ref (fa0 35), .ref (fa0 36), .ref (fa0 37), .int 0, .int 0, .int 0, .int 0, .int 0]))] sz)) 0 0 (va_A [(h0, .inr (10, [.ref (fa0 0), .ref (fa0 1), .ref (fa0 2), .ref (fa0 20), .ref (fa0 21), .ref (fa0 16), .ref (fa0 17), .ref (fa0 22), .ref (fa0 23), .ref (fa0 18), .ref (fa0 24), .ref (fa0 25), .ref (fa0 19), .int 0, .int 0, .int (-1), .int 0, .int 0, .int 0])), ((fa0 2), .inr (1, [.ref (fa0 3), .ref (fa0 4), .ref (fa0 5), .ref (fa0 6), .ref (fa0 7), .ref (fa0 8), .ref (fa0 9), .ref (fa0 31), .ref (fa0 10), .int 0, .int 1700, .int 0])), ((fa0 1), .inr (8, [.ref (fa0 26), .ref (fa0 27), .ref (fa0 28), .ref (fa0 29), .ref (fa0 30), .int 2, .int 1802])), ((fa0 10), .inl (cI, 2, .inl (fun _ => 0))), ((fa0 16), .inr (5, [.ref (fa0 11), .ref (fa0 2), .ref (fa0 1), .int 0, .int 0, .int 0, .int 0, .int 0, .int 0, .long 0, .int 0])), ((fa0 11), .inr (2, [.ref (fa0 0), .ref (fa0 32), .ref (fa0 12), .ref (fa0 13), .ref (fa0 14), .ref (fa0 15), .int 0, .int 0, .int 0, .int 0, .int 0, .long 0])), ((fa0 0), .inl (cB, 3000, .inl (fun _ => 0))), ((fa0 12), .inl (cI, 801, .inl (fun _ => 0))), ((fa0 13), .inl (cI, 801, .inl (fun _ => 0))), ((fa0 14), .inl (cI, 801, .inl (fun _ => 0))), ((fa0 15), .inl (cJ, 801, .inr (.inl (fun _ => 0)))), ((fa0 17), .inr (7, [.ref (fa0 2), .ref (fa0 1), .ref (fa0 33), .ref (fa0 34), .ref (fa0 35), .ref (fa0 36), .ref (fa0 37), .int 0, .int 0, .int 0, .int 0, .int 0]))] sz) := by
  refine Met.ofW (cc := cX10_load) (maxL := 4) (ret := (some .int)) (by decide) rfl ?_
  intro p e s m args below meth c s₁ B hml hv
  obtain ⟨rfl, hsz, hP, hK, hD0⟩ := hv
  have hx := B.exec
  have hb := B.bytes
  have hr := B.returns
  have hts := atoms_spec (ws := wq_X10_load) B.pre
  have hown : s.vm.findClass RX10 = some m.cls := findClass_of_methodNamed B.named
  have hlocks := B.notSynchronized
  subst hsz
  have hD := hD0.self (sz := s.heap.size)
  generalize hAe : va_A [(h0, .inr (10, [.ref (fa0 0), .ref (fa0 1), .ref (fa0 2), .ref (fa0 20), .ref (fa0 21), .ref (fa0 16), .ref (fa0 17), .ref (fa0 22), .ref (fa0 23), .ref (fa0 18), .ref (fa0 24), .ref (fa0 25), .ref (fa0 19), .int 0, .int 0, .int (-1), .int 0, .int 0, .int 0])), ((fa0 2), .inr (1, [.ref (fa0 3), .ref (fa0 4), .ref (fa0 5), .ref (fa0 6), .ref (fa0 7), .ref (fa0 8), .ref (fa0 9), .ref (fa0 31), .ref (fa0 10), .int 0, .int 1700, .int 0])), ((fa0 1), .inr (8, [.ref (fa0 26), .ref (fa0 27), .ref (fa0 28), .ref (fa0 29), .ref (fa0 30), .int 2, .int 1802])), ((fa0 10), .inl (cI, 2, .inl (fun _ => 0))), ((fa0 16), .inr (5, [.ref (fa0 11), .ref (fa0 2), .ref (fa0 1), .int 0, .int 0, .int 0, .int 0, .int 0, .int 0, .long 0, .int 0])), ((fa0 11), .inr (2, [.ref (fa0 0), .ref (fa0 32), .ref (fa0 12), .ref (fa0 13), .ref (fa0 14), .ref (fa0 15), .int 0, .int 0, .int 0, .int 0, .int 0, .long 0])), ((fa0 0), .inl (cB, 3000, .inl (fun _ => 0))), ((fa0 12), .inl (cI, 801, .inl (fun _ => 0))), ((fa0 13), .inl (cI, 801, .inl (fun _ => 0))), ((fa0 14), .inl (cI, 801, .inl (fun _ => 0))), ((fa0 15), .inl (cJ, 801, .inr (.inl (fun _ => 0)))), ((fa0 17), .inr (7, [.ref (fa0 2), .ref (fa0 1), .ref (fa0 33), .ref (fa0 34), .ref (fa0 35), .ref (fa0 36), .ref (fa0 37), .int 0, .int 0, .int 0, .int 0, .int 0]))] s.heap.size = A at hD ⊢
  have hA : ∀ q : Nat, s.heap.size ≤ q → A q := fun q h => by rw [← hAe]; exact Or.inr h
  have hS : va_S A s.heap s.heap [] := va_S.rf
  have hP : va_P (dC, dI) vwCl [(h0, .inr (10, [.ref (fa0 0), .ref (fa0 1), .ref (fa0 2), .ref (fa0 20), .ref (fa0 21), .ref (fa0 16), .ref (fa0 17), .ref (fa0 22), .ref (fa0 23), .ref (fa0 18), .ref (fa0 24), .ref (fa0 25), .ref (fa0 19), .int 0, .int 0, .int (-1), .int 0, .int 0, .int 0])), ((fa0 2), .inr (1, [.ref (fa0 3), .ref (fa0 4), .ref (fa0 5), .ref (fa0 6), .ref (fa0 7), .ref (fa0 8), .ref (fa0 9), .ref (fa0 31), .ref (fa0 10), .int 0, .int 1700, .int 0])), ((fa0 1), .inr (8, [.ref (fa0 26), .ref (fa0 27), .ref (fa0 28), .ref (fa0 29), .ref (fa0 30), .int 2, .int 1802])), ((fa0 10), .inl (cI, 2, .inl (fun _ => 0))), ((fa0 16), .inr (5, [.ref (fa0 11), .ref (fa0 2), .ref (fa0 1), .int 0, .int 0, .int 0, .int 0, .int 0, .int 0, .long 0, .int 0])), ((fa0 11), .inr (2, [.ref (fa0 0), .ref (fa0 32), .ref (fa0 12), .ref (fa0 13), .ref (fa0 14), .ref (fa0 15), .int 0, .int 0, .int 0, .int 0, .int 0, .long 0])), ((fa0 0), .inl (cB, 3000, .inl (fun _ => 0))), ((fa0 12), .inl (cI, 801, .inl (fun _ => 0))), ((fa0 13), .inl (cI, 801, .inl (fun _ => 0))), ((fa0 14), .inl (cI, 801, .inl (fun _ => 0))), ((fa0 15), .inl (cJ, 801, .inr (.inl (fun _ => 0)))), ((fa0 17), .inr (7, [.ref (fa0 2), .ref (fa0 1), .ref (fa0 33), .ref (fa0 34), .ref (fa0 35), .ref (fa0 36), .ref (fa0 37), .int 0, .int 0, .int 0, .int 0, .int 0]))] s.heap := hP
  obtain ⟨H, hH⟩ : ∃ H, H = s.heap := ⟨_, rfl⟩
  rw [← hH] at hP
  have hS : va_S A s.heap H [] := by rw [hH]; exact hS
  have hl := lv_entry ([.ref h0, .int 0]) (n := 4) (Nat.le_of_ble_eq_true rfl)
  rw [lg_entry_eq]
  generalize (lg_sl ([.ref h0, .int 0]) ++ List.replicate (4 - (lg_sl ([.ref h0, .int 0])).length) Slot.unset).toArray = ls at hl ⊢
  have hl : lv_has ls 4 [(0, .ref h0), (1, .int 0)] := hl
  refine pq_heap hH ?_
  refine lv_iload_n hx hb dX10_load_0 rfl (lv_at hl 1 rfl) ?_
  refine lv_if_lt (tgt := 12) hx hb dX10_load_1 (by decide) (fun c_ => absurd c_ (by decide)) (fun _ => ?_)
  refine lv_iload_n hx hb dX10_load_4 rfl (lv_at hl 1 rfl) ?_
  refine lv_aload_n hx hb dX10_load_5 rfl (lv_at hl 0 rfl) ?_
  refine va_get (D := (dC, dI)) (ci := 10) (v := .int 0) (C := RX10) (T := TX10) (N := 19) hx hb hts iq_X10_load_X10 hown hK hP 0 rfl rfl 13 (by decide) (hts (Cond.fieldLink RX10 105 "CodePress" "tapeSize" "I") (List.mem_of_getElem? (i := 1) rfl)) (fun _ h9 => h9) rfl dX10_load_6 ?_
  refine lv_icmp_le (tgt := 15) hx hb dX10_load_9 (by decide) (fun _ => ?_) (fun c_ => absurd (by decide) c_)
  refine lv_aload_n hx hb dX10_load_15 rfl (lv_at hl 0 rfl) ?_
  refine lv_iconst (v := 0) hx hb dX10_load_16 (by decide) ?_
  refine va_put (D := (dC, dI)) (ci := 10) (v := .int 0) (ty := .int) (C := RX10) (T := TX10) (N := 19) hx hb hts iq_X10_load_X10 tyX10 tyX10_ok nmX10 hown hK hP hD hS 0 rfl rfl 13 (by decide) (hts (Cond.fieldLink RX10 105 "CodePress" "tapeSize" "I") (List.mem_of_getElem? (i := 1) rfl)) (fun _ h9 => h9) rfl (by decide +kernel) rfl rfl (Nat.le_of_ble_eq_true rfl) dX10_load_17 (fun H locs hP hD hS => ?_)
  have hR9 : pq_R (dC, dI) vwCl A [(h0, .inr (10, [.ref (fa0 0), .ref (fa0 1), .ref (fa0 2), .ref (fa0 20), .ref (fa0 21), .ref (fa0 16), .ref (fa0 17), .ref (fa0 22), .ref (fa0 23), .ref (fa0 18), .ref (fa0 24), .ref (fa0 25), .ref (fa0 19), .int 0, .int 0, .int (-1), .int 0, .int 0, .int 0])), ((fa0 2), .inr (1, [.ref (fa0 3), .ref (fa0 4), .ref (fa0 5), .ref (fa0 6), .ref (fa0 7), .ref (fa0 8), .ref (fa0 9), .ref (fa0 31), .ref (fa0 10), .int 0, .int 1700, .int 0])), ((fa0 1), .inr (8, [.ref (fa0 26), .ref (fa0 27), .ref (fa0 28), .ref (fa0 29), .ref (fa0 30), .int 2, .int 1802])), ((fa0 10), .inl (cI, 2, .inl (fun _ => 0))), ((fa0 16), .inr (5, [.ref (fa0 11), .ref (fa0 2), .ref (fa0 1), .int 0, .int 0, .int 0, .int 0, .int 0, .int 0, .long 0, .int 0])), ((fa0 11), .inr (2, [.ref (fa0 0), .ref (fa0 32), .ref (fa0 12), .ref (fa0 13), .ref (fa0 14), .ref (fa0 15), .int 0, .int 0, .int 0, .int 0, .int 0, .long 0])), ((fa0 0), .inl (cB, 3000, .inl (fun _ => 0))), ((fa0 12), .inl (cI, 801, .inl (fun _ => 0))), ((fa0 13), .inl (cI, 801, .inl (fun _ => 0))), ((fa0 14), .inl (cI, 801, .inl (fun _ => 0))), ((fa0 15), .inl (cJ, 801, .inr (.inl (fun _ => 0)))), ((fa0 17), .inr (7, [.ref (fa0 2), .ref (fa0 1), .ref (fa0 33), .ref (fa0 34), .ref (fa0 35), .ref (fa0 36), .ref (fa0 37), .int 0, .int 0, .int 0, .int 0, .int 0]))] H := ⟨hP, hD⟩
  have hP := hR9.1
  have hD := hR9.2
  refine lv_aload_n hx hb dX10_load_20 rfl (lv_at hl 0 rfl) ?_
  refine va_get (D := (dC, dI)) (ci := 10) (v := .ref (fa0 2)) (C := RX10) (T := TX10) (N := 19) hx hb hts iq_X10_load_X10 hown hK hP 0 rfl rfl 2 (by decide) (hts (Cond.fieldLink RX10 23 "CodePress" "code" "LCodePress$Code;") (List.mem_of_getElem? (i := 2) rfl)) (fun _ h9 => h9) rfl dX10_load_21 ?_
  refine va_get (D := (dC, dI)) (ci := 1) (v := .int 0) (C := RX1) (T := TX1) (N := 12) hx hb hts iq_X10_load_X1 hown hK hP 1 rfl rfl 11 (by decide) (hts (Cond.fieldLink RX10 112 "CodePress$Code" "known" "I") (List.mem_of_getElem? (i := 3) rfl)) (fun _ h9 => h9) rfl dX10_load_24 ?_
  refine lv_istore_n (lv' := [(2, .int 0), (0, .ref h0), (1, .int 0)]) hx hb dX10_load_27 rfl hl (by decide) rfl (fun ls hl => ?_)
  refine lv_aload_n hx hb dX10_load_28 rfl (lv_at hl 1 rfl) ?_
  refine pq_ci (wr := [((fa0 10), .inl (cI, 2, .inl (fun _ => 0))), ((fa0 16), .inr (5, [.ref (fa0 11), .ref (fa0 2), .ref (fa0 1), .int 0, .int 0, .int 0, .int 0, .int 0, .int 0, .long 0, .int 0])), ((fa0 11), .inr (2, [.ref (fa0 0), .ref (fa0 32), .ref (fa0 12), .ref (fa0 13), .ref (fa0 14), .ref (fa0 15), .int 0, .int 0, .int 0, .int 0, .int 0, .long 0])), ((fa0 0), .inl (cB, 3000, .inl (fun _ => 0))), ((fa0 12), .inl (cI, 801, .inl (fun _ => 0))), ((fa0 13), .inl (cI, 801, .inl (fun _ => 0))), ((fa0 14), .inl (cI, 801, .inl (fun _ => 0))), ((fa0 15), .inl (cJ, 801, .inr (.inl (fun _ => 0)))), ((fa0 17), .inr (7, [.ref (fa0 2), .ref (fa0 1), .ref (fa0 33), .ref (fa0 34), .ref (fa0 35), .ref (fa0 36), .ref (fa0 37), .int 0, .int 0, .int 0, .int 0, .int 0]))]) (W1 := (fun u => [(h0, .inr (10, [.ref (fa0 0), .ref (fa0 1), .ref (fa0 2), .ref (fa0 20), .ref (fa0 21), .ref (fa0 16), .ref (fa0 17), .ref (fa0 22), .ref (fa0 23), .ref (fa0 18), .ref (fa0 24), .ref (fa0 25), .ref (fa0 19), .int 0, .int 0, .int (-1), .int 0, .int 0, .int 0])), ((fa0 2), .inr (1, [.ref (fa0 3), .ref (fa0 4), .ref (fa0 5), .ref (fa0 6), .ref (fa0 7), .ref (fa0 8), .ref (fa0 9), .ref (fa0 31), .ref (fa0 10), .int 1700, .int 3400, .int 0])), ((fa0 1), .inr (8, [.ref (fa0 26), .ref (fa0 27), .ref (fa0 28), .ref (fa0 29), .ref (fa0 30), .int 1802, .int 3602]))])) (va_runV (As := []) (rest := []) ⟨hx, hb, hml, hown, hts⟩ (cq_X10_startText l dC dI cB cI cJ cZ h0 fa0 H.size) (cwV 0 hts gq_X10_load_X10_startText_115 rfl rfl rfl (by decide +kernel) ⟨(by decide +kernel), (by decide +kernel)⟩) ⟨pq_blind, va_recv hK hP (ci := 10) (q0 := 0) rfl rfl, pq_pre hK hP hD [0, 1, 2] rfl rfl⟩ rfl rfl hl.1 rfl (lv_room (Nat.le_of_ble_eq_true rfl)) dX10_load_29 ⟨(by decide +kernel), (by decide +kernel)⟩) hP hD hS hA [0, 1, 2] [3, 4, 5, 6, 7, 8, 9, 10, 11] rfl rfl rfl (by decide) (fun r2 u1 H locs hw hP hD hS => ?_)
  subst hw
  have hR9 : pq_R (dC, dI) vwCl A [((fa0 10), .inl (cI, 2, .inl (fun _ => 0))), ((fa0 16), .inr (5, [.ref (fa0 11), .ref (fa0 2), .ref (fa0 1), .int 0, .int 0, .int 0, .int 0, .int 0, .int 0, .long 0, .int 0])), ((fa0 11), .inr (2, [.ref (fa0 0), .ref (fa0 32), .ref (fa0 12), .ref (fa0 13), .ref (fa0 14), .ref (fa0 15), .int 0, .int 0, .int 0, .int 0, .int 0, .long 0])), ((fa0 0), .inl (cB, 3000, .inl (fun _ => 0))), ((fa0 12), .inl (cI, 801, .inl (fun _ => 0))), ((fa0 13), .inl (cI, 801, .inl (fun _ => 0))), ((fa0 14), .inl (cI, 801, .inl (fun _ => 0))), ((fa0 15), .inl (cJ, 801, .inr (.inl (fun _ => 0)))), ((fa0 17), .inr (7, [.ref (fa0 2), .ref (fa0 1), .ref (fa0 33), .ref (fa0 34), .ref (fa0 35), .ref (fa0 36), .ref (fa0 37), .int 0, .int 0, .int 0, .int 0, .int 0])), (h0, .inr (10, [.ref (fa0 0), .ref (fa0 1), .ref (fa0 2), .ref (fa0 20), .ref (fa0 21), .ref (fa0 16), .ref (fa0 17), .ref (fa0 22), .ref (fa0 23), .ref (fa0 18), .ref (fa0 24), .ref (fa0 25), .ref (fa0 19), .int 0, .int 0, .int (-1), .int 0, .int 0, .int 0])), ((fa0 2), .inr (1, [.ref (fa0 3), .ref (fa0 4), .ref (fa0 5), .ref (fa0 6), .ref (fa0 7), .ref (fa0 8), .ref (fa0 9), .ref (fa0 31), .ref (fa0 10), .int 1700, .int 3400, .int 0])), ((fa0 1), .inr (8, [.ref (fa0 26), .ref (fa0 27), .ref (fa0 28), .ref (fa0 29), .ref (fa0 30), .int 1802, .int 3602]))] H := ⟨hP, hD⟩
  have hP := hR9.1
  have hD := hR9.2
  refine W.widen (k := 0) (n := 0) (by decide +kernel) (by decide +kernel) ?_
  refine lv_istore_n (lv' := [(3, .int 1700), (2, .int 0), (0, .ref h0), (1, .int 0)]) hx hb dX10_load_32 rfl hl (by decide) rfl (fun ls hl => ?_)
  refine lv_aload_n hx hb dX10_load_33 rfl (lv_at hl 2 rfl) ?_
  refine va_get (D := (dC, dI)) (ci := 10) (v := .ref (fa0 2)) (C := RX10) (T := TX10) (N := 19) hx hb hts iq_X10_load_X10 hown hK hP 9 rfl rfl 2 (by decide) (hts (Cond.fieldLink RX10 23 "CodePress" "code" "LCodePress$Code;") (List.mem_of_getElem? (i := 2) rfl)) (fun _ h9 => h9) rfl dX10_load_34 ?_
  refine lv_iconst (v := 1) hx hb dX10_load_37 (by decide) ?_
  refine lv_iload_n hx hb dX10_load_38 rfl (lv_at hl 1 rfl) ?_
  refine lv_isub hx hb dX10_load_39 ?_
  refine lv_topi (fun x3 ex3 => ?_)
  obtain rfl : x3 = 1 := ex3.trans (by decide)
  refine pq_cv (wr := [((fa0 16), .inr (5, [.ref (fa0 11), .ref (fa0 2), .ref (fa0 1), .int 0, .int 0, .int 0, .int 0, .int 0, .int 0, .long 0, .int 0])), ((fa0 11), .inr (2, [.ref (fa0 0), .ref (fa0 32), .ref (fa0 12), .ref (fa0 13), .ref (fa0 14), .ref (fa0 15), .int 0, .int 0, .int 0, .int 0, .int 0, .long 0])), ((fa0 0), .inl (cB, 3000, .inl (fun _ => 0))), ((fa0 12), .inl (cI, 801, .inl (fun _ => 0))), ((fa0 13), .inl (cI, 801, .inl (fun _ => 0))), ((fa0 14), .inl (cI, 801, .inl (fun _ => 0))), ((fa0 15), .inl (cJ, 801, .inr (.inl (fun _ => 0)))), ((fa0 17), .inr (7, [.ref (fa0 2), .ref (fa0 1), .ref (fa0 33), .ref (fa0 34), .ref (fa0 35), .ref (fa0 36), .ref (fa0 37), .int 0, .int 0, .int 0, .int 0, .int 0])), (h0, .inr (10, [.ref (fa0 0), .ref (fa0 1), .ref (fa0 2), .ref (fa0 20), .ref (fa0 21), .ref (fa0 16), .ref (fa0 17), .ref (fa0 22), .ref (fa0 23), .ref (fa0 18), .ref (fa0 24), .ref (fa0 25), .ref (fa0 19), .int 0, .int 0, .int (-1), .int 0, .int 0, .int 0])), ((fa0 1), .inr (8, [.ref (fa0 26), .ref (fa0 27), .ref (fa0 28), .ref (fa0 29), .ref (fa0 30), .int 1802, .int 3602]))]) (W1 := (fun u => [((fa0 2), .inr (1, [.ref (fa0 3), .ref (fa0 4), .ref (fa0 5), .ref (fa0 6), .ref (fa0 7), .ref (fa0 8), .ref (fa0 9), .ref (fa0 31), .ref (fa0 10), .int 1700, .int 3400, .int 1])), ((fa0 10), .inl (cI, 2, .inl (upd (fun _ => 0) 1 0)))])) (va_runV (As := [.int 1]) (rest := []) ⟨hx, hb, hml, hown, hts⟩ (cq_X1_startDefs l dC dI cB cI cJ cZ fa0 H.size) (cwV 1 hts gq_X10_load_X1_startDefs_119 rfl rfl rfl (by decide +kernel) ⟨(by decide +kernel), (by decide +kernel)⟩) ⟨pq_blind, va_recv hK hP (ci := 1) (q0 := 10) rfl rfl, pq_pre hK hP hD [10, 0] rfl rfl⟩ rfl rfl hl.1 rfl (lv_room (Nat.le_of_ble_eq_true rfl)) dX10_load_40 ⟨(by decide +kernel), (by decide +kernel)⟩) hP hD hS hA [10, 0] [1, 2, 3, 4, 5, 6, 7, 8, 9, 11] rfl rfl rfl (by decide) (fun u4 H locs hw hP hD hS => ?_)
  have hR9 : pq_R (dC, dI) vwCl A [((fa0 16), .inr (5, [.ref (fa0 11), .ref (fa0 2), .ref (fa0 1), .int 0, .int 0, .int 0, .int 0, .int 0, .int 0, .long 0, .int 0])), ((fa0 11), .inr (2, [.ref (fa0 0), .ref (fa0 32), .ref (fa0 12), .ref (fa0 13), .ref (fa0 14), .ref (fa0 15), .int 0, .int 0, .int 0, .int 0, .int 0, .long 0])), ((fa0 0), .inl (cB, 3000, .inl (fun _ => 0))), ((fa0 12), .inl (cI, 801, .inl (fun _ => 0))), ((fa0 13), .inl (cI, 801, .inl (fun _ => 0))), ((fa0 14), .inl (cI, 801, .inl (fun _ => 0))), ((fa0 15), .inl (cJ, 801, .inr (.inl (fun _ => 0)))), ((fa0 17), .inr (7, [.ref (fa0 2), .ref (fa0 1), .ref (fa0 33), .ref (fa0 34), .ref (fa0 35), .ref (fa0 36), .ref (fa0 37), .int 0, .int 0, .int 0, .int 0, .int 0])), (h0, .inr (10, [.ref (fa0 0), .ref (fa0 1), .ref (fa0 2), .ref (fa0 20), .ref (fa0 21), .ref (fa0 16), .ref (fa0 17), .ref (fa0 22), .ref (fa0 23), .ref (fa0 18), .ref (fa0 24), .ref (fa0 25), .ref (fa0 19), .int 0, .int 0, .int (-1), .int 0, .int 0, .int 0])), ((fa0 1), .inr (8, [.ref (fa0 26), .ref (fa0 27), .ref (fa0 28), .ref (fa0 29), .ref (fa0 30), .int 1802, .int 3602])), ((fa0 2), .inr (1, [.ref (fa0 3), .ref (fa0 4), .ref (fa0 5), .ref (fa0 6), .ref (fa0 7), .ref (fa0 8), .ref (fa0 9), .ref (fa0 31), .ref (fa0 10), .int 1700, .int 3400, .int 1])), ((fa0 10), .inl (cI, 2, .inl (upd (fun _ => 0) 1 0)))] H := ⟨hP, hD⟩
  have hP := hR9.1
  have hD := hR9.2
  refine W.widen (k := 0) (n := 0) (by decide +kernel) (by decide +kernel) ?_
  refine lv_aload_n hx hb dX10_load_43 rfl (lv_at hl 2 rfl) ?_
  refine va_get (D := (dC, dI)) (ci := 10) (v := .ref (fa0 16)) (C := RX10) (T := TX10) (N := 19) hx hb hts iq_X10_load_X10 hown hK hP 8 rfl rfl 5 (by decide) (hts (Cond.fieldLink RX10 51 "CodePress" "parser" "LCodePress$Parser;") (List.mem_of_getElem? (i := 31) rfl)) (fun _ h9 => h9) rfl dX10_load_44 ?_
  refine lv_iload_n hx hb dX10_load_47 rfl (lv_at hl 3 rfl) ?_
  refine pq_cv (wr := [((fa0 17), .inr (7, [.ref (fa0 2), .ref (fa0 1), .ref (fa0 33), .ref (fa0 34), .ref (fa0 35), .ref (fa0 36), .ref (fa0 37), .int 0, .int 0, .int 0, .int 0, .int 0])), (h0, .inr (10, [.ref (fa0 0), .ref (fa0 1), .ref (fa0 2), .ref (fa0 20), .ref (fa0 21), .ref (fa0 16), .ref (fa0 17), .ref (fa0 22), .ref (fa0 23), .ref (fa0 18), .ref (fa0 24), .ref (fa0 25), .ref (fa0 19), .int 0, .int 0, .int (-1), .int 0, .int 0, .int 0])), ((fa0 1), .inr (8, [.ref (fa0 26), .ref (fa0 27), .ref (fa0 28), .ref (fa0 29), .ref (fa0 30), .int 1802, .int 3602])), ((fa0 2), .inr (1, [.ref (fa0 3), .ref (fa0 4), .ref (fa0 5), .ref (fa0 6), .ref (fa0 7), .ref (fa0 8), .ref (fa0 9), .ref (fa0 31), .ref (fa0 10), .int 1700, .int 3400, .int 1])), ((fa0 10), .inl (cI, 2, .inl (upd (fun _ => 0) 1 0)))]) (W1 := (fun u => [((fa0 16), .inr (5, [.ref (fa0 11), .ref (fa0 2), .ref (fa0 1), .int 0, .int 260, .int 0, .int 0, .int 0, .int (-1), .long 0, .int 0])), ((fa0 0), .inl (cB, 3000, .inl (fun _ => 0))), ((fa0 12), .inl (cI, 801, .inl (upd (fun _ => 0) 0 260))), ((fa0 13), .inl (cI, 801, .inl (upd (fun _ => 0) 0 0))), ((fa0 14), .inl (cI, 801, .inl (upd (fun _ => 0) 0 0))), ((fa0 15), .inl (cJ, 801, .inr (.inl (vp_updL (fun _ => 0) 0 0)))), ((fa0 11), .inr (2, [.ref (fa0 0), .ref (fa0 32), .ref (fa0 12), .ref (fa0 13), .ref (fa0 14), .ref (fa0 15), .int 0, .int 0, .int 260, .int 0, .int 0, .long 0]))])) (va_runV (As := [.int 0]) (rest := []) ⟨hx, hb, hml, hown, hts⟩ (cq_X5_readProgram l dC dI cB cI cJ cZ fa0 H.size) (cwV 1 hts gq_X10_load_X5_readProgram_122 rfl rfl rfl (by decide +kernel) ⟨(by decide +kernel), (by decide +kernel)⟩) ⟨pq_blind, va_recv hK hP (ci := 5) (q0 := 0) rfl rfl, pq_pre hK hP hD [0, 1, 2, 3, 4, 5, 6] rfl rfl⟩ rfl rfl hl.1 rfl (lv_room (Nat.le_of_ble_eq_true rfl)) dX10_load_48 ⟨(by decide +kernel), (by decide +kernel)⟩) hP hD hS hA [0, 1, 2, 3, 4, 5, 6] [7, 8, 9, 10, 11] rfl rfl rfl (by decide) (fun u5 H locs hw hP hD hS => ?_)
  have hR9 : pq_R (dC, dI) vwCl A [((fa0 17), .inr (7, [.ref (fa0 2), .ref (fa0 1), .ref (fa0 33), .ref (fa0 34), .ref (fa0 35), .ref (fa0 36), .ref (fa0 37), .int 0, .int 0, .int 0, .int 0, .int 0])), (h0, .inr (10, [.ref (fa0 0), .ref (fa0 1), .ref (fa0 2), .ref (fa0 20), .ref (fa0 21), .ref (fa0 16), .ref (fa0 17), .ref (fa0 22), .ref (fa0 23), .ref (fa0 18), .ref (fa0 24), .ref (fa0 25), .ref (fa0 19), .int 0, .int 0, .int (-1), .int 0, .int 0, .int 0])), ((fa0 1), .inr (8, [.ref (fa0 26), .ref (fa0 27), .ref (fa0 28), .ref (fa0 29), .ref (fa0 30), .int 1802, .int 3602])), ((fa0 2), .inr (1, [.ref (fa0 3), .ref (fa0 4), .ref (fa0 5), .ref (fa0 6), .ref (fa0 7), .ref (fa0 8), .ref (fa0 9), .ref (fa0 31), .ref (fa0 10), .int 1700, .int 3400, .int 1])), ((fa0 10), .inl (cI, 2, .inl (upd (fun _ => 0) 1 0))), ((fa0 16), .inr (5, [.ref (fa0 11), .ref (fa0 2), .ref (fa0 1), .int 0, .int 260, .int 0, .int 0, .int 0, .int (-1), .long 0, .int 0])), ((fa0 0), .inl (cB, 3000, .inl (fun _ => 0))), ((fa0 12), .inl (cI, 801, .inl (upd (fun _ => 0) 0 260))), ((fa0 13), .inl (cI, 801, .inl (upd (fun _ => 0) 0 0))), ((fa0 14), .inl (cI, 801, .inl (upd (fun _ => 0) 0 0))), ((fa0 15), .inl (cJ, 801, .inr (.inl (vp_updL (fun _ => 0) 0 0)))), ((fa0 11), .inr (2, [.ref (fa0 0), .ref (fa0 32), .ref (fa0 12), .ref (fa0 13), .ref (fa0 14), .ref (fa0 15), .int 0, .int 0, .int 260, .int 0, .int 0, .long 0]))] H := ⟨hP, hD⟩
  have hP := hR9.1
  have hD := hR9.2
  refine W.widen (k := 0) (n := 0) (by decide +kernel) (by decide +kernel) ?_
  refine lv_aload_n hx hb dX10_load_51 rfl (lv_at hl 2 rfl) ?_
  refine lv_iload_n hx hb dX10_load_52 rfl (lv_at hl 0 rfl) ?_
  refine pq_ci (wr := [((fa0 1), .inr (8, [.ref (fa0 26), .ref (fa0 27), .ref (fa0 28), .ref (fa0 29), .ref (fa0 30), .int 1802, .int 3602])), ((fa0 10), .inl (cI, 2, .inl (upd (fun _ => 0) 1 0))), ((fa0 0), .inl (cB, 3000, .inl (fun _ => 0))), ((fa0 12), .inl (cI, 801, .inl (upd (fun _ => 0) 0 260))), ((fa0 13), .inl (cI, 801, .inl (upd (fun _ => 0) 0 0))), ((fa0 14), .inl (cI, 801, .inl (upd (fun _ => 0) 0 0))), ((fa0 15), .inl (cJ, 801, .inr (.inl (vp_updL (fun _ => 0) 0 0)))), ((fa0 11), .inr (2, [.ref (fa0 0), .ref (fa0 32), .ref (fa0 12), .ref (fa0 13), .ref (fa0 14), .ref (fa0 15), .int 0, .int 0, .int 260, .int 0, .int 0, .long 0]))]) (W1 := (fun u => [(h0, .inr (10, [.ref (fa0 0), .ref (fa0 1), .ref (fa0 2), .ref (fa0 20), .ref (fa0 21), .ref (fa0 16), .ref (fa0 17), .ref (fa0 22), .ref (fa0 23), .ref (fa0 18), .ref (fa0 24), .ref (fa0 25), .ref (fa0 19), .int 0, .int 0, .int (-1), .int 0, .int 0, .int 0])), ((fa0 16), .inr (5, [.ref (fa0 11), .ref (fa0 2), .ref (fa0 1), .int 0, .int 260, .int 0, .int 0, .int 0, .int (-1), .long 0, .int 0])), ((fa0 2), .inr (1, [.ref (fa0 3), .ref (fa0 4), .ref (fa0 5), .ref (fa0 6), .ref (fa0 7), .ref (fa0 8), .ref (fa0 9), .ref (fa0 31), .ref (fa0 10), .int 1700, .int 3400, .int 1])), ((fa0 17), .inr (7, [.ref (fa0 2), .ref (fa0 1), .ref (fa0 33), .ref (fa0 34), .ref (fa0 35), .ref (fa0 36), .ref (fa0 37), .int 0, .int 0, .int 0, .int 0, .int (-1)]))])) (va_runV (As := [.int 1700]) (rest := []) ⟨hx, hb, hml, hown, hts⟩ (cq_X10_isSound l dC dI cB cI cJ cZ h0 fa0 H.size) (cwV 1 hts gq_X10_load_X10_isSound_125 rfl rfl rfl (by decide +kernel) ⟨(by decide +kernel), (by decide +kernel)⟩) ⟨pq_blind, va_recv hK hP (ci := 10) (q0 := 1) rfl rfl, pq_pre hK hP hD [1, 5, 3, 0] rfl rfl⟩ rfl rfl hl.1 rfl (lv_room (Nat.le_of_ble_eq_true rfl)) dX10_load_53 ⟨(by decide +kernel), (by decide +kernel)⟩) hP hD hS hA [1, 5, 3, 0] [2, 4, 6, 7, 8, 9, 10, 11] rfl rfl rfl (by decide) (fun r7 u6 H locs hw hP hD hS => ?_)
  subst hw
  have hR9 : pq_R (dC, dI) vwCl A [((fa0 1), .inr (8, [.ref (fa0 26), .ref (fa0 27), .ref (fa0 28), .ref (fa0 29), .ref (fa0 30), .int 1802, .int 3602])), ((fa0 10), .inl (cI, 2, .inl (upd (fun _ => 0) 1 0))), ((fa0 0), .inl (cB, 3000, .inl (fun _ => 0))), ((fa0 12), .inl (cI, 801, .inl (upd (fun _ => 0) 0 260))), ((fa0 13), .inl (cI, 801, .inl (upd (fun _ => 0) 0 0))), ((fa0 14), .inl (cI, 801, .inl (upd (fun _ => 0) 0 0))), ((fa0 15), .inl (cJ, 801, .inr (.inl (vp_updL (fun _ => 0) 0 0)))), ((fa0 11), .inr (2, [.ref (fa0 0), .ref (fa0 32), .ref (fa0 12), .ref (fa0 13), .ref (fa0 14), .ref (fa0 15), .int 0, .int 0, .int 260, .int 0, .int 0, .long 0])), (h0, .inr (10, [.ref (fa0 0), .ref (fa0 1), .ref (fa0 2), .ref (fa0 20), .ref (fa0 21), .ref (fa0 16), .ref (fa0 17), .ref (fa0 22), .ref (fa0 23), .ref (fa0 18), .ref (fa0 24), .ref (fa0 25), .ref (fa0 19), .int 0, .int 0, .int (-1), .int 0, .int 0, .int 0])), ((fa0 16), .inr (5, [.ref (fa0 11), .ref (fa0 2), .ref (fa0 1), .int 0, .int 260, .int 0, .int 0, .int 0, .int (-1), .long 0, .int 0])), ((fa0 2), .inr (1, [.ref (fa0 3), .ref (fa0 4), .ref (fa0 5), .ref (fa0 6), .ref (fa0 7), .ref (fa0 8), .ref (fa0 9), .ref (fa0 31), .ref (fa0 10), .int 1700, .int 3400, .int 1])), ((fa0 17), .inr (7, [.ref (fa0 2), .ref (fa0 1), .ref (fa0 33), .ref (fa0 34), .ref (fa0 35), .ref (fa0 36), .ref (fa0 37), .int 0, .int 0, .int 0, .int 0, .int (-1)]))] H := ⟨hP, hD⟩
  have hP := hR9.1
  have hD := hR9.2
  refine W.widen (k := 0) (n := 0) (by decide +kernel) (by decide +kernel) ?_
  refine lv_if_ne (tgt := 69) hx hb dX10_load_56 (by decide) (fun _ => ?_) (fun c_ => absurd c_ (by decide))
  refine lv_aload_n hx hb dX10_load_69 rfl (lv_at hl 2 rfl) ?_
  refine va_get (D := (dC, dI)) (ci := 10) (v := .ref (fa0 2)) (C := RX10) (T := TX10) (N := 19) hx hb hts iq_X10_load_X10 hown hK hP 8 rfl rfl 2 (by decide) (hts (Cond.fieldLink RX10 23 "CodePress" "code" "LCodePress$Code;") (List.mem_of_getElem? (i := 2) rfl)) (fun _ h9 => h9) rfl dX10_load_70 ?_
  refine va_get (D := (dC, dI)) (ci := 1) (v := .ref (fa0 10)) (C := RX1) (T := TX1) (N := 12) hx hb hts iq_X10_load_X1 hown hK hP 10 rfl rfl 8 (by decide) (hts (Cond.fieldLink RX10 129 "CodePress$Code" "defCount" "[I") (List.mem_of_getElem? (i := 95) rfl)) (fun _ h9 => h9) rfl dX10_load_73 ?_
  refine lv_aload_n hx hb dX10_load_76 rfl (lv_at hl 2 rfl) ?_
  refine va_get (D := (dC, dI)) (ci := 10) (v := .ref (fa0 2)) (C := RX10) (T := TX10) (N := 19) hx hb hts iq_X10_load_X10 hown hK hP 8 rfl rfl 2 (by decide) (hts (Cond.fieldLink RX10 23 "CodePress" "code" "LCodePress$Code;") (List.mem_of_getElem? (i := 2) rfl)) (fun _ h9 => h9) rfl dX10_load_77 ?_
  refine va_get (D := (dC, dI)) (ci := 1) (v := .int 1) (C := RX1) (T := TX1) (N := 12) hx hb hts iq_X10_load_X1 hown hK hP 10 rfl rfl 11 (by decide) (hts (Cond.fieldLink RX10 112 "CodePress$Code" "known" "I") (List.mem_of_getElem? (i := 3) rfl)) (fun _ h9 => h9) rfl dX10_load_80 ?_
  refine va_iald hx hb hK hP 1 1 rfl rfl (pq_in (by decide)) dX10_load_83 ?_
  refine lv_topi (fun x8 ex8 => ?_)
  obtain rfl : x8 = 0 := ex8.trans (by decide)
  have hP9 := pq_P.pick (wc := [((fa0 1), .inr (8, [.ref (fa0 26), .ref (fa0 27), .ref (fa0 28), .ref (fa0 29), .ref (fa0 30), .int 1802, .int 3602])), ((fa0 10), .inl (cI, 2, .inl (upd (fun _ => 0) 1 0))), ((fa0 0), .inl (cB, 3000, .inl (fun _ => 0))), ((fa0 12), .inl (cI, 801, .inl (upd (fun _ => 0) 0 260))), ((fa0 13), .inl (cI, 801, .inl (upd (fun _ => 0) 0 0))), ((fa0 14), .inl (cI, 801, .inl (upd (fun _ => 0) 0 0))), ((fa0 15), .inl (cJ, 801, .inr (.inl (vp_updL (fun _ => 0) 0 0)))), ((fa0 11), .inr (2, [.ref (fa0 0), .ref (fa0 32), .ref (fa0 12), .ref (fa0 13), .ref (fa0 14), .ref (fa0 15), .int 0, .int 0, .int 260, .int 0, .int 0, .long 0])), (h0, .inr (10, [.ref (fa0 0), .ref (fa0 1), .ref (fa0 2), .ref (fa0 20), .ref (fa0 21), .ref (fa0 16), .ref (fa0 17), .ref (fa0 22), .ref (fa0 23), .ref (fa0 18), .ref (fa0 24), .ref (fa0 25), .ref (fa0 19), .int 0, .int 0, .int (-1), .int 0, .int 0, .int 0])), ((fa0 16), .inr (5, [.ref (fa0 11), .ref (fa0 2), .ref (fa0 1), .int 0, .int 260, .int 0, .int 0, .int 0, .int (-1), .long 0, .int 0])), ((fa0 2), .inr (1, [.ref (fa0 3), .ref (fa0 4), .ref (fa0 5), .ref (fa0 6), .ref (fa0 7), .ref (fa0 8), .ref (fa0 9), .ref (fa0 31), .ref (fa0 10), .int 1700, .int 3400, .int 1])), ((fa0 17), .inr (7, [.ref (fa0 2), .ref (fa0 1), .ref (fa0 33), .ref (fa0 34), .ref (fa0 35), .ref (fa0 36), .ref (fa0 37), .int 0, .int 0, .int 0, .int 0, .int (-1)]))]) hP [0, 1, 2, 3, 4, 5, 6, 7, 8, 9, 10, 11] rfl
  have hD9 := hD.sub (ws' := [((fa0 1), .inr (8, [.ref (fa0 26), .ref (fa0 27), .ref (fa0 28), .ref (fa0 29), .ref (fa0 30), .int 1802, .int 3602])), ((fa0 10), .inl (cI, 2, .inl (upd (fun _ => 0) 1 0))), ((fa0 0), .inl (cB, 3000, .inl (fun _ => 0))), ((fa0 12), .inl (cI, 801, .inl (upd (fun _ => 0) 0 260))), ((fa0 13), .inl (cI, 801, .inl (upd (fun _ => 0) 0 0))), ((fa0 14), .inl (cI, 801, .inl (upd (fun _ => 0) 0 0))), ((fa0 15), .inl (cJ, 801, .inr (.inl (vp_updL (fun _ => 0) 0 0)))), ((fa0 11), .inr (2, [.ref (fa0 0), .ref (fa0 32), .ref (fa0 12), .ref (fa0 13), .ref (fa0 14), .ref (fa0 15), .int 0, .int 0, .int 260, .int 0, .int 0, .long 0])), (h0, .inr (10, [.ref (fa0 0), .ref (fa0 1), .ref (fa0 2), .ref (fa0 20), .ref (fa0 21), .ref (fa0 16), .ref (fa0 17), .ref (fa0 22), .ref (fa0 23), .ref (fa0 18), .ref (fa0 24), .ref (fa0 25), .ref (fa0 19), .int 0, .int 0, .int (-1), .int 0, .int 0, .int 0])), ((fa0 16), .inr (5, [.ref (fa0 11), .ref (fa0 2), .ref (fa0 1), .int 0, .int 260, .int 0, .int 0, .int 0, .int (-1), .long 0, .int 0])), ((fa0 2), .inr (1, [.ref (fa0 3), .ref (fa0 4), .ref (fa0 5), .ref (fa0 6), .ref (fa0 7), .ref (fa0 8), .ref (fa0 9), .ref (fa0 31), .ref (fa0 10), .int 1700, .int 3400, .int 1])), ((fa0 17), .inr (7, [.ref (fa0 2), .ref (fa0 1), .ref (fa0 33), .ref (fa0 34), .ref (fa0 35), .ref (fa0 36), .ref (fa0 37), .int 0, .int 0, .int 0, .int 0, .int (-1)]))]) [0, 1, 2, 3, 4, 5, 6, 7, 8, 9, 10, 11] (by decide) rfl
  refine W.widen (k := 0) (n := 0) (by decide +kernel) (by decide +kernel) ?_
  exact W.iret (v := 0) hx hb hr (fun t ht hW => ⟨⟨0, sq_u [] [], rfl, rfl, pq_B.of ht hP9 hD9⟩, hS.F ht⟩) hS.2.2 dX10_load_84
def wq_X10_load_1 : List Cond := Cond.code yX10_load cX10_load 4 (some .int) :: (([] : List Cond))
set_option maxHeartbeats 4000000 in
set_option maxRecDepth 100000 in
theorem cq_X10_load_1 (l : Launch) (dC : Nat → ClassId) (dI : Nat → Nat → Nat) (cB cI cJ cZ : ClassId) (a0 : Nat) (x0 : Int32) (sz : Nat) (k1 : x0 < 0) : Met l yX10_load wq_X10_load_1 ({ frames := 0, cells := 0, slots := 0, locals := 0 }) (va_Pc [.ref a0, .int x0] (pq_W (dC, dI) vwCl (tyQ cB cI cJ cZ) [] sz)) (va_Qi (fun (r : Int32) (_ : SQ) => r = (-2)) (fun u => pq_B (dC, dI) vwCl [] (va_A [] sz)) (va_A [] sz)) 0 0 (va_A [] sz) := by
  refine Met.ofW (cc := cX10_load) (maxL := 4) (ret := (some .int)) (by decide) rfl ?_
  intro p e s m args below meth c s₁ B hml hv
  obtain ⟨rfl, hsz, hP, hK, hD0⟩ := hv
  have hx := B.exec
  have hb := B.bytes
  have hr := B.returns
  have hts := atoms_spec (ws := wq_X10_load_1) B.pre
  have hown : s.vm.findClass RX10 = some m.cls := findClass_of_methodNamed B.named
  have hlocks := B.notSynchronized
  subst hsz
  have hD := hD0.self (sz := s.heap.size)
  generalize hAe : va_A [] s.heap.size = A at hD ⊢
  have hA : ∀ q : Nat, s.heap.size ≤ q → A q := fun q h => by rw [← hAe]; exact Or.inr h
  have hS : va_S A s.heap s.heap [] := va_S.rf
  have hP : va_P (dC, dI) vwCl [] s.heap := hP
  obtain ⟨H, hH⟩ : ∃ H, H = s.heap := ⟨_, rfl⟩
  rw [← hH] at hP
  have hS : va_S A s.heap H [] := by rw [hH]; exact hS
  have hl := lv_entry ([.ref a0, .int x0]) (n := 4) (Nat.le_of_ble_eq_true rfl)
  rw [lg_entry_eq]
  generalize (lg_sl ([.ref a0, .int x0]) ++ List.replicate (4 - (lg_sl ([.ref a0, .int x0])).length) Slot.unset).toArray = ls at hl ⊢
  have hl : lv_has ls 4 [(0, .ref a0), (1, .int x0)] := hl
  refine pq_heap hH ?_
  refine lv_iload_n hx hb dX10_load_0 rfl (lv_at hl 1 rfl) ?_
  refine lv_if_lt (tgt := 12) hx hb dX10_load_1 (by decide) (fun _ => ?_) (fun c_ => absurd k1 c_)
  refine lv_bipush (v := (-2)) hx hb dX10_load_12 (by decide) ?_
  have hP9 := pq_P.pick (wc := []) hP [] rfl
  have hD9 := hD.sub (ws' := []) [] (by decide) rfl
  refine W.widen (k := 0) (n := 0) (by decide +kernel) (by decide +kernel) ?_
  exact W.iret (v := (-2)) hx hb hr (fun t ht hW => ⟨⟨(-2), sq_u [] [], rfl, rfl, pq_B.of ht hP9 hD9⟩, hS.F ht⟩) hS.2.2 dX10_load_14
def wq_X10_load_2_r1 : List Cond := [Cond.fieldLink RX10 105 "CodePress" "tapeSize" "I"]
def wq_X10_load_2 : List Cond := Cond.code yX10_load cX10_load 4 (some .int) :: (wq_X10_load_2_r1 ++ wsX100)
theorem iq_X10_load_2_X10 : ∀ w ∈ wsX100, w ∈ wq_X10_load_2 := fun _ h => List.mem_cons_of_mem _ (List.mem_append_right _ h)
set_option maxHeartbeats 4000000 in
set_option maxRecDepth 100000 in
theorem cq_X10_load_2 (l : Launch) (dC : Nat → ClassId) (dI : Nat → Nat → Nat) (cB cI cJ cZ : ClassId) (h0 : Nat) (x0 : Int32) (fa0 : Nat → Nat) (sz : Nat) (k1 : ¬ x0 < 0) (k2 : 0 < x0) : Met l yX10_load wq_X10_load_2 ({ frames := 0, cells := 0, slots := 0, locals := 0 }) (va_Pc [.ref h0, .int x0] (pq_W (dC, dI) vwCl (tyQ cB cI cJ cZ) [(h0, .inr (10, [.ref (fa0 0), .ref (fa0 1), .ref (fa0 2), .ref (fa0 20), .ref (fa0 21), .ref (fa0 16), .ref (fa0 17), .ref (fa0 22), .ref (fa0 23), .ref (fa0 18), .ref (fa0 24), .ref (fa0 25), .ref (fa0 19), .int 0, .int 0, .int (-1), .int 0, .int 0, .int 0]))] sz)) (va_Qi (fun (r : Int32) (_ : SQ) => r = (-2)) (fun u => pq_B (dC, dI) vwCl [(h0, .inr (10, [.ref (fa0 0), .ref (fa0 1), .ref (fa0 2), .ref (fa0 20), .ref (fa0 21), .ref (fa0 16), .ref (fa0 17), .ref (fa0 22), .ref (fa0 23), .ref (fa0 18), .ref (fa0 24), .ref (fa0 25), .ref (fa0 19), .int 0, .int 0, .int (-1), .int 0, .int 0, .int 0]))] (va_A [(h0, .inr (10, [.ref (fa0 0), .ref (fa0 1), .ref (fa0 2), .ref (fa0 20), .ref (fa0 21), .ref (fa0 16), .ref (fa0 17), .ref (fa0 22), .ref (fa0 23), .ref (fa0 18), .ref (fa0 24), .ref (fa0 25), .ref (fa0 19), .int 0, .int 0, .int (-1), .int 0, .int 0, .int 0]))] sz)) (va_A [(h0, .inr (10, [.ref (fa0 0), .ref (fa0 1), .ref (fa0 2), .ref (fa0 20), .ref (fa0 21), .ref (fa0 16), .ref (fa0 17), .ref (fa0 22), .ref (fa0 23), .ref (fa0 18), .ref (fa0 24), .ref (fa0 25), .ref (fa0 19), .int 0, .int 0, .int (-1), .int 0, .int 0, .int 0]))] sz)) 0 0 (va_A [(h0, .inr (10, [.ref (fa0 0), .ref (fa0 1), .ref (fa0 2), .ref (fa0 20), .ref (fa0 21), .ref (fa0 16), .ref (fa0 17), .ref (fa0 22), .ref (fa0 23), .ref (fa0 18), .ref (fa0 24), .ref (fa0 25), .ref (fa0 19), .int 0, .int 0, .int (-1), .int 0, .int 0, .int 0]))] sz) := by
  refine Met.ofW (cc := cX10_load) (maxL := 4) (ret := (some .int)) (by decide) rfl ?_
  intro p e s m args below meth c s₁ B hml hv
  obtain ⟨rfl, hsz, hP, hK, hD0⟩ := hv
  have hx := B.exec
  have hb := B.bytes
  have hr := B.returns
  have hts := atoms_spec (ws := wq_X10_load_2) B.pre
  have hown : s.vm.findClass RX10 = some m.cls := findClass_of_methodNamed B.named
  have hlocks := B.notSynchronized
  subst hsz
  have hD := hD0.self (sz := s.heap.size)
  generalize hAe : va_A [(h0, .inr (10, [.ref (fa0 0), .ref (fa0 1), .ref (fa0 2), .ref (fa0 20), .ref (fa0 21), .ref (fa0 16), .ref (fa0 17), .ref (fa0 22), .ref (fa0 23), .ref (fa0 18), .ref (fa0 24), .ref (fa0 25), .ref (fa0 19), .int 0, .int 0, .int (-1), .int 0, .int 0, .int 0]))] s.heap.size = A at hD ⊢
  have hA : ∀ q : Nat, s.heap.size ≤ q → A q := fun q h => by rw [← hAe]; exact Or.inr h
  have hS : va_S A s.heap s.heap [] := va_S.rf
  have hP : va_P (dC, dI) vwCl [(h0, .inr (10, [.ref (fa0 0), .ref (fa0 1), .ref (fa0 2), .ref (fa0 20), .ref (fa0 21), .ref (fa0 16), .ref (fa0 17), .ref (fa0 22), .ref (fa0 23), .ref (fa0 18), .ref (fa0 24), .ref (fa0 25), .ref (fa0 19), .int 0, .int 0, .int (-1), .int 0, .int 0, .int 0]))] s.heap := hP
  obtain ⟨H, hH⟩ : ∃ H, H = s.heap := ⟨_, rfl⟩
  rw [← hH] at hP
  have hS : va_S A s.heap H [] := by rw [hH]; exact hS
  have hl := lv_entry ([.ref h0, .int x0]) (n := 4) (Nat.le_of_ble_eq_true rfl)
  rw [lg_entry_eq]
  generalize (lg_sl ([.ref h0, .int x0]) ++ List.replicate (4 - (lg_sl ([.ref h0, .int x0])).length) Slot.unset).toArray = ls at hl ⊢
  have hl : lv_has ls 4 [(0, .ref h0), (1, .int x0)] := hl
  refine pq_heap hH ?_
  refine lv_iload_n hx hb dX10_load_0 rfl (lv_at hl 1 rfl) ?_
  refine lv_if_lt (tgt := 12) hx hb dX10_load_1 (by decide) (fun c_ => absurd c_ k1) (fun _ => ?_)
  refine lv_iload_n hx hb dX10_load_4 rfl (lv_at hl 1 rfl) ?_
  refine lv_aload_n hx hb dX10_load_5 rfl (lv_at hl 0 rfl) ?_
  refine va_get (D := (dC, dI)) (ci := 10) (v := .int 0) (C := RX10) (T := TX10) (N := 19) hx hb hts iq_X10_load_2_X10 hown hK hP 0 rfl rfl 13 (by decide) (hts (Cond.fieldLink RX10 105 "CodePress" "tapeSize" "I") (List.mem_of_getElem? (i := 1) rfl)) (fun _ h9 => h9) rfl dX10_load_6 ?_
  refine lv_icmp_le (tgt := 15) hx hb dX10_load_9 (by decide) (fun c_ => absurd c_ (Int32.not_le.mpr k2)) (fun _ => ?_)
  refine lv_bipush (v := (-2)) hx hb dX10_load_12 (by decide) ?_
  have hP9 := pq_P.pick (wc := [(h0, .inr (10, [.ref (fa0 0), .ref (fa0 1), .ref (fa0 2), .ref (fa0 20), .ref (fa0 21), .ref (fa0 16), .ref (fa0 17), .ref (fa0 22), .ref (fa0 23), .ref (fa0 18), .ref (fa0 24), .ref (fa0 25), .ref (fa0 19), .int 0, .int 0, .int (-1), .int 0, .int 0, .int 0]))]) hP [0] rfl
  have hD9 := hD.sub (ws' := [(h0, .inr (10, [.ref (fa0 0), .ref (fa0 1), .ref (fa0 2), .ref (fa0 20), .ref (fa0 21), .ref (fa0 16), .ref (fa0 17), .ref (fa0 22), .ref (fa0 23), .ref (fa0 18), .ref (fa0 24), .ref (fa0 25), .ref (fa0 19), .int 0, .int 0, .int (-1), .int 0, .int 0, .int 0]))]) [0] (by decide) rfl
  refine W.widen (k := 0) (n := 0) (by decide +kernel) (by decide +kernel) ?_
  exact W.iret (v := (-2)) hx hb hr (fun t ht hW => ⟨⟨(-2), sq_u [] [], rfl, rfl, pq_B.of ht hP9 hD9⟩, hS.F ht⟩) hS.2.2 dX10_load_14
def wq_X10_ask : List Cond := Cond.code yX10_ask cX10_ask 6 (some .int) :: (([] : List Cond))
set_option maxHeartbeats 4000000 in
set_option maxRecDepth 100000 in
theorem cq_X10_ask (l : Launch) (dC : Nat → ClassId) (dI : Nat → Nat → Nat) (cB cI cJ cZ : ClassId) (a0 : Nat) (x0 : Int32) (x1 : Int32) (x2 : Int32) (sz : Nat) (k1 : x0 < 0) : Met l yX10_ask wq_X10_ask ({ frames := 0, cells := 0, slots := 0, locals := 0 }) (va_Pc [.ref a0, .int x0, .int x1, .int x2] (pq_W (dC, dI) vwCl (tyQ cB cI cJ cZ) [] sz)) (va_Qi (fun (r : Int32) (_ : SQ) => r = (-2)) (fun u => pq_B (dC, dI) vwCl [] (va_A [] sz)) (va_A [] sz)) 0 0 (va_A [] sz) := by
  refine Met.ofW (cc := cX10_ask) (maxL := 6) (ret := (some .int)) (by decide) rfl ?_
  intro p e s m args below meth c s₁ B hml hv
  obtain ⟨rfl, hsz, hP, hK, hD0⟩ := hv
  have hx := B.exec
  have hb := B.bytes
  have hr := B.returns
  have hts := atoms_spec (ws := wq_X10_ask) B.pre
  have hown : s.vm.findClass RX10 = some m.cls := findClass_of_methodNamed B.named
  have hlocks := B.notSynchronized
  subst hsz
  have hD := hD0.self (sz := s.heap.size)
  generalize hAe : va_A [] s.heap.size = A at hD ⊢
  have hA : ∀ q : Nat, s.heap.size ≤ q → A q := fun q h => by rw [← hAe]; exact Or.inr h
  have hS : va_S A s.heap s.heap [] := va_S.rf
  have hP : va_P (dC, dI) vwCl [] s.heap := hP
  obtain ⟨H, hH⟩ : ∃ H, H = s.heap := ⟨_, rfl⟩
  rw [← hH] at hP
  have hS : va_S A s.heap H [] := by rw [hH]; exact hS
  have hl := lv_entry ([.ref a0, .int x0, .int x1, .int x2]) (n := 6) (Nat.le_of_ble_eq_true rfl)
  rw [lg_entry_eq]
  generalize (lg_sl ([.ref a0, .int x0, .int x1, .int x2]) ++ List.replicate (6 - (lg_sl ([.ref a0, .int x0, .int x1, .int x2])).length) Slot.unset).toArray = ls at hl ⊢
  have hl : lv_has ls 6 [(0, .ref a0), (1, .int x0), (2, .int x1), (3, .int x2)] := hl
  refine pq_heap hH ?_
  refine lv_iload_n hx hb dX10_ask_0 rfl (lv_at hl 1 rfl) ?_
  refine lv_if_lt (tgt := 23) hx hb dX10_ask_1 (by decide) (fun _ => ?_) (fun c_ => absurd k1 c_)
  refine lv_bipush (v := (-2)) hx hb dX10_ask_23 (by decide) ?_
  have hP9 := pq_P.pick (wc := []) hP [] rfl
  have hD9 := hD.sub (ws' := []) [] (by decide) rfl
  refine W.widen (k := 0) (n := 0) (by decide +kernel) (by decide +kernel) ?_
  exact W.iret (v := (-2)) hx hb hr (fun t ht hW => ⟨⟨(-2), sq_u [] [], rfl, rfl, pq_B.of ht hP9 hD9⟩, hS.F ht⟩) hS.2.2 dX10_ask_25
def wq_X10_ask_1_r1 : List Cond := [Cond.fieldLink RX10 105 "CodePress" "tapeSize" "I"]
def wq_X10_ask_1 : List Cond := Cond.code yX10_ask cX10_ask 6 (some .int) :: (wq_X10_ask_1_r1 ++ wsX100)
theorem iq_X10_ask_1_X10 : ∀ w ∈ wsX100, w ∈ wq_X10_ask_1 := fun _ h => List.mem_cons_of_mem _ (List.mem_append_right _ h)
set_option maxHeartbeats 4000000 in
set_option maxRecDepth 100000 in
theorem cq_X10_ask_1 (l : Launch) (dC : Nat → ClassId) (dI : Nat → Nat → Nat) (cB cI cJ cZ : ClassId) (h0 : Nat) (x0 : Int32) (x1 : Int32) (x2 : Int32) (fa0 : Nat → Nat) (sz : Nat) (k1 : ¬ x0 < 0) (k2 : 0 < x0) : Met l yX10_ask wq_X10_ask_1 ({ frames := 0, cells := 0, slots := 0, locals := 0 }) (va_Pc [.ref h0, .int x0, .int x1, .int x2] (pq_W (dC, dI) vwCl (tyQ cB cI cJ cZ) [(h0, .inr (10, [.ref (fa0 0), .ref (fa0 1), .ref (fa0 2), .ref (fa0 20), .ref (fa0 21), .ref (fa0 16), .ref (fa0 17), .ref (fa0 22), .ref (fa0 23), .ref (fa0 18), .ref (fa0 24), .ref (fa0 25), .ref (fa0 19), .int 0, .int 0, .int (-1), .int 0, .int 0, .int 0]))] sz)) (va_Qi (fun (r : Int32) (_ : SQ) => r = (-2)) (fun u => pq_B (dC, dI) vwCl [(h0, .inr (10, [.ref (fa0 0), .ref (fa0 1), .ref (fa0 2), .ref (fa0 20), .ref (fa0 21), .ref (fa0 16), .ref (fa0 17), .ref (fa0 22), .ref (fa0 23), .ref (fa0 18), .ref (fa0 24), .ref (fa0 25), .ref (fa0 19), .int 0, .int 0, .int (-1), .int 0, .int 0, .int 0]))] (va_A [(h0, .inr (10, [.ref (fa0 0), .ref (fa0 1), .ref (fa0 2), .ref (fa0 20), .ref (fa0 21), .ref (fa0 16), .ref (fa0 17), .ref (fa0 22), .ref (fa0 23), .ref (fa0 18), .ref (fa0 24), .ref (fa0 25), .ref (fa0 19), .int 0, .int 0, .int (-1), .int 0, .int 0, .int 0]))] sz)) (va_A [(h0, .inr (10, [.ref (fa0 0), .ref (fa0 1), .ref (fa0 2), .ref (fa0 20), .ref (fa0 21), .ref (fa0 16), .ref (fa0 17), .ref (fa0 22), .ref (fa0 23), .ref (fa0 18), .ref (fa0 24), .ref (fa0 25), .ref (fa0 19), .int 0, .int 0, .int (-1), .int 0, .int 0, .int 0]))] sz)) 0 0 (va_A [(h0, .inr (10, [.ref (fa0 0), .ref (fa0 1), .ref (fa0 2), .ref (fa0 20), .ref (fa0 21), .ref (fa0 16), .ref (fa0 17), .ref (fa0 22), .ref (fa0 23), .ref (fa0 18), .ref (fa0 24), .ref (fa0 25), .ref (fa0 19), .int 0, .int 0, .int (-1), .int 0, .int 0, .int 0]))] sz) := by
  refine Met.ofW (cc := cX10_ask) (maxL := 6) (ret := (some .int)) (by decide) rfl ?_
  intro p e s m args below meth c s₁ B hml hv
  obtain ⟨rfl, hsz, hP, hK, hD0⟩ := hv
  have hx := B.exec
  have hb := B.bytes
  have hr := B.returns
  have hts := atoms_spec (ws := wq_X10_ask_1) B.pre
  have hown : s.vm.findClass RX10 = some m.cls := findClass_of_methodNamed B.named
  have hlocks := B.notSynchronized
  subst hsz
  have hD := hD0.self (sz := s.heap.size)
  generalize hAe : va_A [(h0, .inr (10, [.ref (fa0 0), .ref (fa0 1), .ref (fa0 2), .ref (fa0 20), .ref (fa0 21), .ref (fa0 16), .ref (fa0 17), .ref (fa0 22), .ref (fa0 23), .ref (fa0 18), .ref (fa0 24), .ref (fa0 25), .ref (fa0 19), .int 0, .int 0, .int (-1), .int 0, .int 0, .int 0]))] s.heap.size = A at hD ⊢
  have hA : ∀ q : Nat, s.heap.size ≤ q → A q := fun q h => by rw [← hAe]; exact Or.inr h
  have hS : va_S A s.heap s.heap [] := va_S.rf
  have hP : va_P (dC, dI) vwCl [(h0, .inr (10, [.ref (fa0 0), .ref (fa0 1), .ref (fa0 2), .ref (fa0 20), .ref (fa0 21), .ref (fa0 16), .ref (fa0 17), .ref (fa0 22), .ref (fa0 23), .ref (fa0 18), .ref (fa0 24), .ref (fa0 25), .ref (fa0 19), .int 0, .int 0, .int (-1), .int 0, .int 0, .int 0]))] s.heap := hP
  obtain ⟨H, hH⟩ : ∃ H, H = s.heap := ⟨_, rfl⟩
  rw [← hH] at hP
  have hS : va_S A s.heap H [] := by rw [hH]; exact hS
  have hl := lv_entry ([.ref h0, .int x0, .int x1, .int x2]) (n := 6) (Nat.le_of_ble_eq_true rfl)
  rw [lg_entry_eq]
  generalize (lg_sl ([.ref h0, .int x0, .int x1, .int x2]) ++ List.replicate (6 - (lg_sl ([.ref h0, .int x0, .int x1, .int x2])).length) Slot.unset).toArray = ls at hl ⊢
  have hl : lv_has ls 6 [(0, .ref h0), (1, .int x0), (2, .int x1), (3, .int x2)] := hl
  refine pq_heap hH ?_
  refine lv_iload_n hx hb dX10_ask_0 rfl (lv_at hl 1 rfl) ?_
  refine lv_if_lt (tgt := 23) hx hb dX10_ask_1 (by decide) (fun c_ => absurd c_ k1) (fun _ => ?_)
  refine lv_iload_n hx hb dX10_ask_4 rfl (lv_at hl 1 rfl) ?_
  refine lv_aload_n hx hb dX10_ask_5 rfl (lv_at hl 0 rfl) ?_
  refine va_get (D := (dC, dI)) (ci := 10) (v := .int 0) (C := RX10) (T := TX10) (N := 19) hx hb hts iq_X10_ask_1_X10 hown hK hP 0 rfl rfl 13 (by decide) (hts (Cond.fieldLink RX10 105 "CodePress" "tapeSize" "I") (List.mem_of_getElem? (i := 1) rfl)) (fun _ h9 => h9) rfl dX10_ask_6 ?_
  refine lv_icmp_gt (tgt := 23) hx hb dX10_ask_9 (by decide) (fun _ => ?_) (fun c_ => absurd k2 c_)
  refine lv_bipush (v := (-2)) hx hb dX10_ask_23 (by decide) ?_
  have hP9 := pq_P.pick (wc := [(h0, .inr (10, [.ref (fa0 0), .ref (fa0 1), .ref (fa0 2), .ref (fa0 20), .ref (fa0 21), .ref (fa0 16), .ref (fa0 17), .ref (fa0 22), .ref (fa0 23), .ref (fa0 18), .ref (fa0 24), .ref (fa0 25), .ref (fa0 19), .int 0, .int 0, .int (-1), .int 0, .int 0, .int 0]))]) hP [0] rfl
  have hD9 := hD.sub (ws' := [(h0, .inr (10, [.ref (fa0 0), .ref (fa0 1), .ref (fa0 2), .ref (fa0 20), .ref (fa0 21), .ref (fa0 16), .ref (fa0 17), .ref (fa0 22), .ref (fa0 23), .ref (fa0 18), .ref (fa0 24), .ref (fa0 25), .ref (fa0 19), .int 0, .int 0, .int (-1), .int 0, .int 0, .int 0]))]) [0] (by decide) rfl
  refine W.widen (k := 0) (n := 0) (by decide +kernel) (by decide +kernel) ?_
  exact W.iret (v := (-2)) hx hb hr (fun t ht hW => ⟨⟨(-2), sq_u [] [], rfl, rfl, pq_B.of ht hP9 hD9⟩, hS.F ht⟩) hS.2.2 dX10_ask_25
def wq_X10_ask_2_r1 : List Cond := [Cond.fieldLink RX10 105 "CodePress" "tapeSize" "I"]
def wq_X10_ask_2 : List Cond := Cond.code yX10_ask cX10_ask 6 (some .int) :: (wq_X10_ask_2_r1 ++ wsX100)
theorem iq_X10_ask_2_X10 : ∀ w ∈ wsX100, w ∈ wq_X10_ask_2 := fun _ h => List.mem_cons_of_mem _ (List.mem_append_right _ h)
set_option maxHeartbeats 4000000 in
set_option maxRecDepth 100000 in
theorem cq_X10_ask_2 (l : Launch) (dC : Nat → ClassId) (dI : Nat → Nat → Nat) (cB cI cJ cZ : ClassId) (h0 : Nat) (x0 : Int32) (x1 : Int32) (fa0 : Nat → Nat) (sz : Nat) (k1 : x0 < 0) : Met l yX10_ask wq_X10_ask_2 ({ frames := 0, cells := 0, slots := 0, locals := 0 }) (va_Pc [.ref h0, .int 0, .int x0, .int x1] (pq_W (dC, dI) vwCl (tyQ cB cI cJ cZ) [(h0, .inr (10, [.ref (fa0 0), .ref (fa0 1), .ref (fa0 2), .ref (fa0 20), .ref (fa0 21), .ref (fa0 16), .ref (fa0 17), .ref (fa0 22), .ref (fa0 23), .ref (fa0 18), .ref (fa0 24), .ref (fa0 25), .ref (fa0 19), .int 0, .int 0, .int (-1), .int 0, .int 0, .int 0]))] sz)) (va_Qi (fun (r : Int32) (_ : SQ) => r = (-2)) (fun u => pq_B (dC, dI) vwCl [(h0, .inr (10, [.ref (fa0 0), .ref (fa0 1), .ref (fa0 2), .ref (fa0 20), .ref (fa0 21), .ref (fa0 16), .ref (fa0 17), .ref (fa0 22), .ref (fa0 23), .ref (fa0 18), .ref (fa0 24), .ref (fa0 25), .ref (fa0 19), .int 0, .int 0, .int (-1), .int 0, .int 0, .int 0]))] (va_A [(h0, .inr (10, [.ref (fa0 0), .ref (fa0 1), .ref (fa0 2), .ref (fa0 20), .ref (fa0 21), .ref (fa0 16), .ref (fa0 17), .ref (fa0 22), .ref (fa0 23), .ref (fa0 18), .ref (fa0 24), .ref (fa0 25), .ref (fa0 19), .int 0, .int 0, .int (-1), .int 0, .int 0, .int 0]))] sz)) (va_A [(h0, .inr (10, [.ref (fa0 0), .ref (fa0 1), .ref (fa0 2), .ref (fa0 20), .ref (fa0 21), .ref (fa0 16), .ref (fa0 17), .ref (fa0 22), .ref (fa0 23), .ref (fa0 18), .ref (fa0 24), .ref (fa0 25), .ref (fa0 19), .int 0, .int 0, .int (-1), .int 0, .int 0, .int 0]))] sz)) 0 0 (va_A [(h0, .inr (10, [.ref (fa0 0), .ref (fa0 1), .ref (fa0 2), .ref (fa0 20), .ref (fa0 21), .ref (fa0 16), .ref (fa0 17), .ref (fa0 22), .ref (fa0 23), .ref (fa0 18), .ref (fa0 24), .ref (fa0 25), .ref (fa0 19), .int 0, .int 0, .int (-1), .int 0, .int 0, .int 0]))] sz) := by
  refine Met.ofW (cc := cX10_ask) (maxL := 6) (ret := (some .int)) (by decide) rfl ?_
  intro p e s m args below meth c s₁ B hml hv
  obtain ⟨rfl, hsz, hP, hK, hD0⟩ := hv
  have hx := B.exec
  have hb := B.bytes
  have hr := B.returns
  have hts := atoms_spec (ws := wq_X10_ask_2) B.pre
  have hown : s.vm.findClass RX10 = some m.cls := findClass_of_methodNamed B.named
  have hlocks := B.notSynchronized
  subst hsz
  have hD := hD0.self (sz := s.heap.size)
  generalize hAe : va_A [(h0, .inr (10, [.ref (fa0 0), .ref (fa0 1), .ref (fa0 2), .ref (fa0 20), .ref (fa0 21), .ref (fa0 16), .ref (fa0 17), .ref (fa0 22), .ref (fa0 23), .ref (fa0 18), .ref (fa0 24), .ref (fa0 25), .ref (fa0 19), .int 0, .int 0, .int (-1), .int 0, .int 0, .int 0]))] s.heap.size = A at hD ⊢
  have hA : ∀ q : Nat, s.heap.size ≤ q → A q := fun q h => by rw [← hAe]; exact Or.inr h
  have hS : va_S A s.heap s.heap [] := va_S.rf
  have hP : va_P (dC, dI) vwCl [(h0, .inr (10, [.ref (fa0 0), .ref (fa0 1), .ref (fa0 2), .ref (fa0 20), .ref (fa0 21), .ref (fa0 16), .ref (fa0 17), .ref (fa0 22), .ref (fa0 23), .ref (fa0 18), .ref (fa0 24), .ref (fa0 25), .ref (fa0 19), .int 0, .int 0, .int (-1), .int 0, .int 0, .int 0]))] s.heap := hP
  obtain ⟨H, hH⟩ : ∃ H, H = s.heap := ⟨_, rfl⟩
  rw [← hH] at hP
  have hS : va_S A s.heap H [] := by rw [hH]; exact hS
  have hl := lv_entry ([.ref h0, .int 0, .int x0, .int x1]) (n := 6) (Nat.le_of_ble_eq_true rfl)
  rw [lg_entry_eq]
  generalize (lg_sl ([.ref h0, .int 0, .int x0, .int x1]) ++ List.replicate (6 - (lg_sl ([.ref h0, .int 0, .int x0, .int x1])).length) Slot.unset).toArray = ls at hl ⊢
  have hl : lv_has ls 6 [(0, .ref h0), (1, .int 0), (2, .int x0), (3, .int x1)] := hl
  refine pq_heap hH ?_
  refine lv_iload_n hx hb dX10_ask_0 rfl (lv_at hl 1 rfl) ?_
  refine lv_if_lt (tgt := 23) hx hb dX10_ask_1 (by decide) (fun c_ => absurd c_ (by decide)) (fun _ => ?_)
  refine lv_iload_n hx hb dX10_ask_4 rfl (lv_at hl 1 rfl) ?_
  refine lv_aload_n hx hb dX10_ask_5 rfl (lv_at hl 0 rfl) ?_
  refine va_get (D := (dC, dI)) (ci := 10) (v := .int 0) (C := RX10) (T := TX10) (N := 19) hx hb hts iq_X10_ask_2_X10 hown hK hP 0 rfl rfl 13 (by decide) (hts (Cond.fieldLink RX10 105 "CodePress" "tapeSize" "I") (List.mem_of_getElem? (i := 1) rfl)) (fun _ h9 => h9) rfl dX10_ask_6 ?_
  refine lv_icmp_gt (tgt := 23) hx hb dX10_ask_9 (by decide) (fun c_ => absurd c_ (by decide)) (fun _ => ?_)
  refine lv_iload_n hx hb dX10_ask_12 rfl (lv_at hl 2 rfl) ?_
  refine lv_if_lt (tgt := 23) hx hb dX10_ask_13 (by decide) (fun _ => ?_) (fun c_ => absurd k1 c_)
  refine lv_bipush (v := (-2)) hx hb dX10_ask_23 (by decide) ?_
  have hP9 := pq_P.pick (wc := [(h0, .inr (10, [.ref (fa0 0), .ref (fa0 1), .ref (fa0 2), .ref (fa0 20), .ref (fa0 21), .ref (fa0 16), .ref (fa0 17), .ref (fa0 22), .ref (fa0 23), .ref (fa0 18), .ref (fa0 24), .ref (fa0 25), .ref (fa0 19), .int 0, .int 0, .int (-1), .int 0, .int 0, .int 0]))]) hP [0] rfl
  have hD9 := hD.sub (ws' := [(h0, .inr (10, [.ref (fa0 0), .ref (fa0 1), .ref (fa0 2), .ref (fa0 20), .ref (fa0 21), .ref (fa0 16), .ref (fa0 17), .ref (fa0 22), .ref (fa0 23), .ref (fa0 18), .ref (fa0 24), .ref (fa0 25), .ref (fa0 19), .int 0, .int 0, .int (-1), .int 0, .int 0, .int 0]))]) [0] (by decide) rfl
  refine W.widen (k := 0) (n := 0) (by decide +kernel) (by decide +kernel) ?_
  exact W.iret (v := (-2)) hx hb hr (fun t ht hW => ⟨⟨(-2), sq_u [] [], rfl, rfl, pq_B.of ht hP9 hD9⟩, hS.F ht⟩) hS.2.2 dX10_ask_25
def wq_X10_ask_3_r1 : List Cond := [Cond.fieldLink RX10 105 "CodePress" "tapeSize" "I"]
def wq_X10_ask_3 : List Cond := Cond.code yX10_ask cX10_ask 6 (some .int) :: (wq_X10_ask_3_r1 ++ wsX100)
theorem iq_X10_ask_3_X10 : ∀ w ∈ wsX100, w ∈ wq_X10_ask_3 := fun _ h => List.mem_cons_of_mem _ (List.mem_append_right _ h)
set_option maxHeartbeats 4000000 in
set_option maxRecDepth 100000 in
theorem cq_X10_ask_3 (l : Launch) (dC : Nat → ClassId) (dI : Nat → Nat → Nat) (cB cI cJ cZ : ClassId) (h0 : Nat) (x0 : Int32) (x1 : Int32) (fa0 : Nat → Nat) (sz : Nat) (k1 : ¬ x0 < 0) (k2 : ¬ x0 ≤ 500) (k3 : 500 < x0) : Met l yX10_ask wq_X10_ask_3 ({ frames := 0, cells := 0, slots := 0, locals := 0 }) (va_Pc [.ref h0, .int 0, .int x0, .int x1] (pq_W (dC, dI) vwCl (tyQ cB cI cJ cZ) [(h0, .inr (10, [.ref (fa0 0), .ref (fa0 1), .ref (fa0 2), .ref (fa0 20), .ref (fa0 21), .ref (fa0 16), .ref (fa0 17), .ref (fa0 22), .ref (fa0 23), .ref (fa0 18), .ref (fa0 24), .ref (fa0 25), .ref (fa0 19), .int 0, .int 0, .int (-1), .int 0, .int 0, .int 0]))] sz)) (va_Qi (fun (r : Int32) (_ : SQ) => r = (-2)) (fun u => pq_B (dC, dI) vwCl [(h0, .inr (10, [.ref (fa0 0), .ref (fa0 1), .ref (fa0 2), .ref (fa0 20), .ref (fa0 21), .ref (fa0 16), .ref (fa0 17), .ref (fa0 22), .ref (fa0 23), .ref (fa0 18), .ref (fa0 24), .ref (fa0 25), .ref (fa0 19), .int 0, .int 0, .int (-1), .int 0, .int 0, .int 0]))] (va_A [(h0, .inr (10, [.ref (fa0 0), .ref (fa0 1), .ref (fa0 2), .ref (fa0 20), .ref (fa0 21), .ref (fa0 16), .ref (fa0 17), .ref (fa0 22), .ref (fa0 23), .ref (fa0 18), .ref (fa0 24), .ref (fa0 25), .ref (fa0 19), .int 0, .int 0, .int (-1), .int 0, .int 0, .int 0]))] sz)) (va_A [(h0, .inr (10, [.ref (fa0 0), .ref (fa0 1), .ref (fa0 2), .ref (fa0 20), .ref (fa0 21), .ref (fa0 16), .ref (fa0 17), .ref (fa0 22), .ref (fa0 23), .ref (fa0 18), .ref (fa0 24), .ref (fa0 25), .ref (fa0 19), .int 0, .int 0, .int (-1), .int 0, .int 0, .int 0]))] sz)) 0 0 (va_A [(h0, .inr (10, [.ref (fa0 0), .ref (fa0 1), .ref (fa0 2), .ref (fa0 20), .ref (fa0 21), .ref (fa0 16), .ref (fa0 17), .ref (fa0 22), .ref (fa0 23), .ref (fa0 18), .ref (fa0 24), .ref (fa0 25), .ref (fa0 19), .int 0, .int 0, .int (-1), .int 0, .int 0, .int 0]))] sz) := by
  refine Met.ofW (cc := cX10_ask) (maxL := 6) (ret := (some .int)) (by decide) rfl ?_
  intro p e s m args below meth c s₁ B hml hv
  obtain ⟨rfl, hsz, hP, hK, hD0⟩ := hv
  have hx := B.exec
  have hb := B.bytes
  have hr := B.returns
  have hts := atoms_spec (ws := wq_X10_ask_3) B.pre
  have hown : s.vm.findClass RX10 = some m.cls := findClass_of_methodNamed B.named
  have hlocks := B.notSynchronized
  subst hsz
  have hD := hD0.self (sz := s.heap.size)
  generalize hAe : va_A [(h0, .inr (10, [.ref (fa0 0), .ref (fa0 1), .ref (fa0 2), .ref (fa0 20), .ref (fa0 21), .ref (fa0 16), .ref (fa0 17), .ref (fa0 22), .ref (fa0 23), .ref (fa0 18), .ref (fa0 24), .ref (fa0 25), .ref (fa0 19), .int 0, .int 0, .int (-1), .int 0, .int 0, .int 0]))] s.heap.size = A at hD ⊢
  have hA : ∀ q : Nat, s.heap.size ≤ q → A q := fun q h => by rw [← hAe]; exact Or.inr h
  have hS : va_S A s.heap s.heap [] := va_S.rf
  have hP : va_P (dC, dI) vwCl [(h0, .inr (10, [.ref (fa0 0), .ref (fa0 1), .ref (fa0 2), .ref (fa0 20), .ref (fa0 21), .ref (fa0 16), .ref (fa0 17), .ref (fa0 22), .ref (fa0 23), .ref (fa0 18), .ref (fa0 24), .ref (fa0 25), .ref (fa0 19), .int 0, .int 0, .int (-1), .int 0, .int 0, .int 0]))] s.heap := hP
  obtain ⟨H, hH⟩ : ∃ H, H = s.heap := ⟨_, rfl⟩
  rw [← hH] at hP
  have hS : va_S A s.heap H [] := by rw [hH]; exact hS
  have hl := lv_entry ([.ref h0, .int 0, .int x0, .int x1]) (n := 6) (Nat.le_of_ble_eq_true rfl)
  rw [lg_entry_eq]
  generalize (lg_sl ([.ref h0, .int 0, .int x0, .int x1]) ++ List.replicate (6 - (lg_sl ([.ref h0, .int 0, .int x0, .int x1])).length) Slot.unset).toArray = ls at hl ⊢
  have hl : lv_has ls 6 [(0, .ref h0), (1, .int 0), (2, .int x0), (3, .int x1)] := hl
  refine pq_heap hH ?_
  refine lv_iload_n hx hb dX10_ask_0 rfl (lv_at hl 1 rfl) ?_
  refine lv_if_lt (tgt := 23) hx hb dX10_ask_1 (by decide) (fun c_ => absurd c_ (by decide)) (fun _ => ?_)
  refine lv_iload_n hx hb dX10_ask_4 rfl (lv_at hl 1 rfl) ?_
  refine lv_aload_n hx hb dX10_ask_5 rfl (lv_at hl 0 rfl) ?_
  refine va_get (D := (dC, dI)) (ci := 10) (v := .int 0) (C := RX10) (T := TX10) (N := 19) hx hb hts iq_X10_ask_3_X10 hown hK hP 0 rfl rfl 13 (by decide) (hts (Cond.fieldLink RX10 105 "CodePress" "tapeSize" "I") (List.mem_of_getElem? (i := 1) rfl)) (fun _ h9 => h9) rfl dX10_ask_6 ?_
  refine lv_icmp_gt (tgt := 23) hx hb dX10_ask_9 (by decide) (fun c_ => absurd c_ (by decide)) (fun _ => ?_)
  refine lv_iload_n hx hb dX10_ask_12 rfl (lv_at hl 2 rfl) ?_
  refine lv_if_lt (tgt := 23) hx hb dX10_ask_13 (by decide) (fun c_ => absurd c_ k1) (fun _ => ?_)
  refine lv_iload_n hx hb dX10_ask_16 rfl (lv_at hl 2 rfl) ?_
  refine lv_sipush (v := 500) hx hb dX10_ask_17 (by decide) ?_
  refine lv_icmp_le (tgt := 26) hx hb dX10_ask_20 (by decide) (fun c_ => absurd c_ k2) (fun _ => ?_)
  refine lv_bipush (v := (-2)) hx hb dX10_ask_23 (by decide) ?_
  have hP9 := pq_P.pick (wc := [(h0, .inr (10, [.ref (fa0 0), .ref (fa0 1), .ref (fa0 2), .ref (fa0 20), .ref (fa0 21), .ref (fa0 16), .ref (fa0 17), .ref (fa0 22), .ref (fa0 23), .ref (fa0 18), .ref (fa0 24), .ref (fa0 25), .ref (fa0 19), .int 0, .int 0, .int (-1), .int 0, .int 0, .int 0]))]) hP [0] rfl
  have hD9 := hD.sub (ws' := [(h0, .inr (10, [.ref (fa0 0), .ref (fa0 1), .ref (fa0 2), .ref (fa0 20), .ref (fa0 21), .ref (fa0 16), .ref (fa0 17), .ref (fa0 22), .ref (fa0 23), .ref (fa0 18), .ref (fa0 24), .ref (fa0 25), .ref (fa0 19), .int 0, .int 0, .int (-1), .int 0, .int 0, .int 0]))]) [0] (by decide) rfl
  refine W.widen (k := 0) (n := 0) (by decide +kernel) (by decide +kernel) ?_
  exact W.iret (v := (-2)) hx hb hr (fun t ht hW => ⟨⟨(-2), sq_u [] [], rfl, rfl, pq_B.of ht hP9 hD9⟩, hS.F ht⟩) hS.2.2 dX10_ask_25
def wq_X5_fail_r1 : List Cond := [Cond.fieldLink RX5 55 "CodePress$Parser" "fault" "I", Cond.fieldLink RX5 71 "CodePress$Parser" "at" "I", Cond.fieldLink RX5 58 "CodePress$Parser" "place" "I", Cond.fieldLink RX5 27 "CodePress$Parser" "kind" "I"]
def wq_X5_fail : List Cond := Cond.code yX5_fail cX5_fail 2 none :: (wq_X5_fail_r1 ++ wsX50)
theorem iq_X5_fail_X5 : ∀ w ∈ wsX50, w ∈ wq_X5_fail := fun _ h => List.mem_cons_of_mem _ (List.mem_append_right _ h)
set_option maxHeartbeats 4000000 in
set_option maxRecDepth 100000 in
theorem cq_X5_fail (l : Launch) (dC : Nat → ClassId) (dI : Nat → Nat → Nat) (cB cI cJ cZ : ClassId) (fa0 : Nat → Nat) (sz : Nat) : Met l yX5_fail wq_X5_fail ({ frames := 0, cells := 0, slots := 0, locals := 0 }) (va_Pc [.ref (fa0 16), .int 1] (pq_W (dC, dI) vwCl (tyQ cB cI cJ cZ) [((fa0 16), .inr (5, [.ref (fa0 11), .ref (fa0 2), .ref (fa0 1), .int 0, .int 260, .int 0, .int 0, .int 0, .int (-1), .long 0, .int 0]))] sz)) (va_Qv (fun (_ : SQ) => True) (fun u => pq_B (dC, dI) vwCl [((fa0 16), .inr (5, [.ref (fa0 11), .ref (fa0 2), .ref (fa0 1), .int 0, .int (-1), .int 0, .int 0, .int 1, .int 0, .long 0, .int 0]))] (va_A [((fa0 16), .inr (5, [.ref (fa0 11), .ref (fa0 2), .ref (fa0 1), .int 0, .int 260, .int 0, .int 0, .int 0, .int (-1), .long 0, .int 0]))] sz)) (va_A [((fa0 16), .inr (5, [.ref (fa0 11), .ref (fa0 2), .ref (fa0 1), .int 0, .int 260, .int 0, .int 0, .int 0, .int (-1), .long 0, .int 0]))] sz)) 0 0 (va_A [((fa0 16), .inr (5, [.ref (fa0 11), .ref (fa0 2), .ref (fa0 1), .int 0, .int 260, .int 0, .int 0, .int 0, .int (-1), .long 0, .int 0]))] sz) := by
  refine Met.ofW (cc := cX5_fail) (maxL := 2) (ret := none) (by decide) rfl ?_
  intro p e s m args below meth c s₁ B hml hv
  obtain ⟨rfl, hsz, hP, hK, hD0⟩ := hv
  have hx := B.exec
  have hb := B.bytes
  have hr := B.returns
  have hts := atoms_spec (ws := wq_X5_fail) B.pre
  have hown : s.vm.findClass RX5 = some m.cls := findClass_of_methodNamed B.named
  have hlocks := B.notSynchronized
  subst hsz
  have hD := hD0.self (sz := s.heap.size)
  generalize hAe : va_A [((fa0 16), .inr (5, [.ref (fa0 11), .ref (fa0 2), .ref (fa0 1), .int 0, .int 260, .int 0, .int 0, .int 0, .int (-1), .long 0, .int 0]))] s.heap.size = A at hD ⊢
  have hA : ∀ q : Nat, s.heap.size ≤ q → A q := fun q h => by rw [← hAe]; exact Or.inr h
  have hS : va_S A s.heap s.heap [] := va_S.rf
  have hP : va_P (dC, dI) vwCl [((fa0 16), .inr (5, [.ref (fa0 11), .ref (fa0 2), .ref (fa0 1), .int 0, .int 260, .int 0, .int 0, .int 0, .int (-1), .long 0, .int 0]))] s.heap := hP
  obtain ⟨H, hH⟩ : ∃ H, H = s.heap := ⟨_, rfl⟩
  rw [← hH] at hP
  have hS : va_S A s.heap H [] := by rw [hH]; exact hS
  have hl := lv_entry ([.ref (fa0 16), .int 1]) (n := 2) (Nat.le_of_ble_eq_true rfl)
  rw [lg_entry_eq]
  generalize (lg_sl ([.ref (fa0 16), .int 1]) ++ List.replicate (2 - (lg_sl ([.ref (fa0 16), .int 1])).length) Slot.unset).toArray = ls at hl ⊢
  have hl : lv_has ls 2 [(0, .ref (fa0 16)), (1, .int 1)] := hl
  refine pq_heap hH ?_
  refine lv_aload_n hx hb dX5_fail_0 rfl (lv_at hl 0 rfl) ?_
  refine va_get (D := (dC, dI)) (ci := 5) (v := .int 0) (C := RX5) (T := TX5) (N := 11) hx hb hts iq_X5_fail_X5 hown hK hP 0 rfl rfl 7 (by decide) (hts (Cond.fieldLink RX5 55 "CodePress$Parser" "fault" "I") (List.mem_of_getElem? (i := 1) rfl)) (fun _ h9 => h9) rfl dX5_fail_1 ?_
  refine lv_if_ne (tgt := 25) hx hb dX5_fail_4 (by decide) (fun c_ => absurd (by decide) c_) (fun _ => ?_)
  refine lv_aload_n hx hb dX5_fail_7 rfl (lv_at hl 0 rfl) ?_
  refine lv_iload_n hx hb dX5_fail_8 rfl (lv_at hl 1 rfl) ?_
  refine va_put (D := (dC, dI)) (ci := 5) (v := .int 1) (ty := .int) (C := RX5) (T := TX5) (N := 11) hx hb hts iq_X5_fail_X5 tyX5 tyX5_ok nmX5 hown hK hP hD hS 0 rfl rfl 7 (by decide) (hts (Cond.fieldLink RX5 55 "CodePress$Parser" "fault" "I") (List.mem_of_getElem? (i := 1) rfl)) (fun _ h9 => h9) rfl (by decide +kernel) rfl rfl (Nat.le_of_ble_eq_true rfl) dX5_fail_9 (fun H locs hP hD hS => ?_)
  have hR9 : pq_R (dC, dI) vwCl A [((fa0 16), .inr (5, [.ref (fa0 11), .ref (fa0 2), .ref (fa0 1), .int 0, .int 260, .int 0, .int 0, .int 1, .int (-1), .long 0, .int 0]))] H := ⟨hP, hD⟩
  have hP := hR9.1
  have hD := hR9.2
  refine lv_aload_n hx hb dX5_fail_12 rfl (lv_at hl 0 rfl) ?_
  refine lv_aload_n hx hb dX5_fail_13 rfl (lv_at hl 0 rfl) ?_
  refine va_get (D := (dC, dI)) (ci := 5) (v := .int 0) (C := RX5) (T := TX5) (N := 11) hx hb hts iq_X5_fail_X5 hown hK hP 0 rfl rfl 5 (by decide) (hts (Cond.fieldLink RX5 71 "CodePress$Parser" "at" "I") (List.mem_of_getElem? (i := 2) rfl)) (fun _ h9 => h9) rfl dX5_fail_14 ?_
  refine va_put (D := (dC, dI)) (ci := 5) (v := .int 0) (ty := .int) (C := RX5) (T := TX5) (N := 11) hx hb hts iq_X5_fail_X5 tyX5 tyX5_ok nmX5 hown hK hP hD hS 0 rfl rfl 8 (by decide) (hts (Cond.fieldLink RX5 58 "CodePress$Parser" "place" "I") (List.mem_of_getElem? (i := 3) rfl)) (fun _ h9 => h9) rfl (by decide +kernel) rfl rfl (Nat.le_of_ble_eq_true rfl) dX5_fail_17 (fun H locs hP hD hS => ?_)
  have hR9 : pq_R (dC, dI) vwCl A [((fa0 16), .inr (5, [.ref (fa0 11), .ref (fa0 2), .ref (fa0 1), .int 0, .int 260, .int 0, .int 0, .int 1, .int 0, .long 0, .int 0]))] H := ⟨hP, hD⟩
  have hP := hR9.1
  have hD := hR9.2
  refine lv_aload_n hx hb dX5_fail_20 rfl (lv_at hl 0 rfl) ?_
  refine lv_iconst (v := (-1)) hx hb dX5_fail_21 (by decide) ?_
  refine va_put (D := (dC, dI)) (ci := 5) (v := .int (-1)) (ty := .int) (C := RX5) (T := TX5) (N := 11) hx hb hts iq_X5_fail_X5 tyX5 tyX5_ok nmX5 hown hK hP hD hS 0 rfl rfl 4 (by decide) (hts (Cond.fieldLink RX5 27 "CodePress$Parser" "kind" "I") (List.mem_of_getElem? (i := 4) rfl)) (fun _ h9 => h9) rfl (by decide +kernel) rfl rfl (Nat.le_of_ble_eq_true rfl) dX5_fail_22 (fun H locs hP hD hS => ?_)
  have hR9 : pq_R (dC, dI) vwCl A [((fa0 16), .inr (5, [.ref (fa0 11), .ref (fa0 2), .ref (fa0 1), .int 0, .int (-1), .int 0, .int 0, .int 1, .int 0, .long 0, .int 0]))] H := ⟨hP, hD⟩
  have hP := hR9.1
  have hD := hR9.2
  have hP9 := pq_P.pick (wc := [((fa0 16), .inr (5, [.ref (fa0 11), .ref (fa0 2), .ref (fa0 1), .int 0, .int (-1), .int 0, .int 0, .int 1, .int 0, .long 0, .int 0]))]) hP [0] rfl
  have hD9 := hD.sub (ws' := [((fa0 16), .inr (5, [.ref (fa0 11), .ref (fa0 2), .ref (fa0 1), .int 0, .int (-1), .int 0, .int 0, .int 1, .int 0, .long 0, .int 0]))]) [0] (by decide) rfl
  refine W.widen (k := 0) (n := 0) (by decide +kernel) (by decide +kernel) ?_
  exact W.vret hx hb hr (fun t ht hW => ⟨⟨sq_u [] [], rfl, trivial, pq_B.of ht hP9 hD9⟩, hS.F ht⟩) hS.2.2 dX5_fail_25
def wq_X5_readU_r1 : List Cond := [Cond.fieldLink RX5 27 "CodePress$Parser" "kind" "I", Cond.code yX5_fail cX5_fail 2 none, Cond.fieldLink RX5 55 "CodePress$Parser" "fault" "I", Cond.fieldLink RX5 71 "CodePress$Parser" "at" "I", Cond.fieldLink RX5 58 "CodePress$Parser" "place" "I", Cond.methodLink RX5 37 yX5_fail, Cond.instanceMethod yX5_fail, Cond.selects RX5 yX5_fail yX5_fail, Cond.initialized RX5]
def wq_X5_readU : List Cond := Cond.code yX5_readU cX5_readU 1 none :: (wq_X5_readU_r1 ++ wsX50)
theorem iq_X5_readU_X5 : ∀ w ∈ wsX50, w ∈ wq_X5_readU := fun _ h => List.mem_cons_of_mem _ (List.mem_append_right _ h)
set_option maxRecDepth 20000 in
theorem gq_X5_readU_X5_fail_37_0 : GoodIn wq_X5_readU (Cond.code yX5_fail cX5_fail 2 none :: wq_X5_fail_r1) := goodIn_r _ [2, 3, 4, 5, 1] (by decide +kernel) (by decide +kernel)
set_option maxRecDepth 20000 in
theorem gq_X5_readU_X5_fail_37 : GoodIn wq_X5_readU (wsV RX5 37 RX5 yX5_fail wq_X5_fail) := goodIn_app (goodIn_r _ [6, 7, 8, 9] (by decide +kernel) (by decide +kernel)) (goodIn_ca gq_X5_readU_X5_fail_37_0 (goodIn_sub iq_X5_readU_X5 guX5))
set_option maxHeartbeats 4000000 in
set_option maxRecDepth 100000 in
theorem cq_X5_readU (l : Launch) (dC : Nat → ClassId) (dI : Nat → Nat → Nat) (cB cI cJ cZ : ClassId) (fa0 : Nat → Nat) (sz : Nat) : Met l yX5_readU wq_X5_readU ({ frames := 1, cells := 0, slots := 0, locals := 21 }) (va_Pc [.ref (fa0 16)] (pq_W (dC, dI) vwCl (tyQ cB cI cJ cZ) [((fa0 16), .inr (5, [.ref (fa0 11), .ref (fa0 2), .ref (fa0 1), .int 0, .int 260, .int 0, .int 0, .int 0, .int (-1), .long 0, .int 0]))] sz)) (va_Qv (fun (_ : SQ) => True) (fun u => pq_B (dC, dI) vwCl [((fa0 16), .inr (5, [.ref (fa0 11), .ref (fa0 2), .ref (fa0 1), .int 0, .int (-1), .int 0, .int 0, .int 1, .int 0, .long 0, .int 0]))] (va_A [((fa0 16), .inr (5, [.ref (fa0 11), .ref (fa0 2), .ref (fa0 1), .int 0, .int 260, .int 0, .int 0, .int 0, .int (-1), .long 0, .int 0]))] sz)) (va_A [((fa0 16), .inr (5, [.ref (fa0 11), .ref (fa0 2), .ref (fa0 1), .int 0, .int 260, .int 0, .int 0, .int 0, .int (-1), .long 0, .int 0]))] sz)) 0 0 (va_A [((fa0 16), .inr (5, [.ref (fa0 11), .ref (fa0 2), .ref (fa0 1), .int 0, .int 260, .int 0, .int 0, .int 0, .int (-1), .long 0, .int 0]))] sz) := by
  refine Met.ofW (cc := cX5_readU) (maxL := 1) (ret := none) (by decide) rfl ?_
  intro p e s m args below meth c s₁ B hml hv
  obtain ⟨rfl, hsz, hP, hK, hD0⟩ := hv
  have hx := B.exec
  have hb := B.bytes
  have hr := B.returns
  have hts := atoms_spec (ws := wq_X5_readU) B.pre
  have hown : s.vm.findClass RX5 = some m.cls := findClass_of_methodNamed B.named
  have hlocks := B.notSynchronized
  subst hsz
  have hD := hD0.self (sz := s.heap.size)
  generalize hAe : va_A [((fa0 16), .inr (5, [.ref (fa0 11), .ref (fa0 2), .ref (fa0 1), .int 0, .int 260, .int 0, .int 0, .int 0, .int (-1), .long 0, .int 0]))] s.heap.size = A at hD ⊢
  have hA : ∀ q : Nat, s.heap.size ≤ q → A q := fun q h => by rw [← hAe]; exact Or.inr h
  have hS : va_S A s.heap s.heap [] := va_S.rf
  have hP : va_P (dC, dI) vwCl [((fa0 16), .inr (5, [.ref (fa0 11), .ref (fa0 2), .ref (fa0 1), .int 0, .int 260, .int 0, .int 0, .int 0, .int (-1), .long 0, .int 0]))] s.heap := hP
  obtain ⟨H, hH⟩ : ∃ H, H = s.heap := ⟨_, rfl⟩
  rw [← hH] at hP
  have hS : va_S A s.heap H [] := by rw [hH]; exact hS
  have hl := lv_entry ([.ref (fa0 16)]) (n := 1) (Nat.le_of_ble_eq_true rfl)
  rw [lg_entry_eq]
  generalize (lg_sl ([.ref (fa0 16)]) ++ List.replicate (1 - (lg_sl ([.ref (fa0 16)])).length) Slot.unset).toArray = ls at hl ⊢
  have hl : lv_has ls 1 [(0, .ref (fa0 16))] := hl
  refine pq_heap hH ?_
  refine lv_aload_n hx hb dX5_readU_0 rfl (lv_at hl 0 rfl) ?_
  refine va_get (D := (dC, dI)) (ci := 5) (v := .int 260) (C := RX5) (T := TX5) (N := 11) hx hb hts iq_X5_readU_X5 hown hK hP 0 rfl rfl 4 (by decide) (hts (Cond.fieldLink RX5 27 "CodePress$Parser" "kind" "I") (List.mem_of_getElem? (i := 1) rfl)) (fun _ h9 => h9) rfl dX5_readU_1 ?_
  refine lv_lookup (off := 209) (tgt := 213) hx hb dX5_readU_4 (by decide) (by decide) (by decide) ?_
  refine lv_aload_n hx hb dX5_readU_213 rfl (lv_at hl 0 rfl) ?_
  refine lv_iconst (v := 1) hx hb dX5_readU_214 (by decide) ?_
  refine pq_cv (wr := []) (W1 := (fun u => [((fa0 16), .inr (5, [.ref (fa0 11), .ref (fa0 2), .ref (fa0 1), .int 0, .int (-1), .int 0, .int 0, .int 1, .int 0, .long 0, .int 0]))])) (va_runV (As := [.int 1]) (rest := []) ⟨hx, hb, hml, hown, hts⟩ (cq_X5_fail l dC dI cB cI cJ cZ fa0 H.size) (cwV 1 hts gq_X5_readU_X5_fail_37 rfl rfl rfl (by decide +kernel) ⟨(by decide +kernel), (by decide +kernel)⟩) ⟨pq_blind, va_recv hK hP (ci := 5) (q0 := 0) rfl rfl, pq_pre hK hP hD [0] rfl rfl⟩ rfl rfl hl.1 rfl (lv_room (Nat.le_of_ble_eq_true rfl)) dX5_readU_215 ⟨(by decide +kernel), (by decide +kernel)⟩) hP hD hS hA [0] [] rfl rfl rfl (by decide) (fun u1 H locs hw hP hD hS => ?_)
  have hR9 : pq_R (dC, dI) vwCl A [((fa0 16), .inr (5, [.ref (fa0 11), .ref (fa0 2), .ref (fa0 1), .int 0, .int (-1), .int 0, .int 0, .int 1, .int 0, .long 0, .int 0]))] H := ⟨hP, hD⟩
  have hP := hR9.1
  have hD := hR9.2
  refine W.widen (k := 0) (n := 0) (by decide +kernel) (by decide +kernel) ?_
  have hP9 := pq_P.pick (wc := [((fa0 16), .inr (5, [.ref (fa0 11), .ref (fa0 2), .ref (fa0 1), .int 0, .int (-1), .int 0, .int 0, .int 1, .int 0, .long 0, .int 0]))]) hP [0] rfl
  have hD9 := hD.sub (ws' := [((fa0 16), .inr (5, [.ref (fa0 11), .ref (fa0 2), .ref (fa0 1), .int 0, .int (-1), .int 0, .int 0, .int 1, .int 0, .long 0, .int 0]))]) [0] (by decide) rfl
  refine W.widen (k := 0) (n := 0) (by decide +kernel) (by decide +kernel) ?_
  exact W.vret hx hb hr (fun t ht hW => ⟨⟨sq_u [] [], rfl, trivial, pq_B.of ht hP9 hD9⟩, hS.F ht⟩) hS.2.2 dX5_readU_218
def wq_X5_beginsU_r1 : List Cond := [Cond.fieldLink RX5 27 "CodePress$Parser" "kind" "I"]
def wq_X5_beginsU : List Cond := Cond.code yX5_beginsU cX5_beginsU 1 (some .boolean) :: (wq_X5_beginsU_r1 ++ wsX50)
theorem iq_X5_beginsU_X5 : ∀ w ∈ wsX50, w ∈ wq_X5_beginsU := fun _ h => List.mem_cons_of_mem _ (List.mem_append_right _ h)
set_option maxHeartbeats 4000000 in
set_option maxRecDepth 100000 in
theorem cq_X5_beginsU (l : Launch) (dC : Nat → ClassId) (dI : Nat → Nat → Nat) (cB cI cJ cZ : ClassId) (fa0 : Nat → Nat) (sz : Nat) : Met l yX5_beginsU wq_X5_beginsU ({ frames := 0, cells := 0, slots := 0, locals := 0 }) (va_Pc [.ref (fa0 16)] (pq_W (dC, dI) vwCl (tyQ cB cI cJ cZ) [((fa0 16), .inr (5, [.ref (fa0 11), .ref (fa0 2), .ref (fa0 1), .int 0, .int (-1), .int 0, .int 0, .int 1, .int 0, .long 0, .int 0]))] sz)) (va_Qi (fun (r : Int32) (_ : SQ) => r = 0) (fun u => pq_B (dC, dI) vwCl [((fa0 16), .inr (5, [.ref (fa0 11), .ref (fa0 2), .ref (fa0 1), .int 0, .int (-1), .int 0, .int 0, .int 1, .int 0, .long 0, .int 0]))] (va_A [((fa0 16), .inr (5, [.ref (fa0 11), .ref (fa0 2), .ref (fa0 1), .int 0, .int (-1), .int 0, .int 0, .int 1, .int 0, .long 0, .int 0]))] sz)) (va_A [((fa0 16), .inr (5, [.ref (fa0 11), .ref (fa0 2), .ref (fa0 1), .int 0, .int (-1), .int 0, .int 0, .int 1, .int 0, .long 0, .int 0]))] sz)) 0 0 (va_A [((fa0 16), .inr (5, [.ref (fa0 11), .ref (fa0 2), .ref (fa0 1), .int 0, .int (-1), .int 0, .int 0, .int 1, .int 0, .long 0, .int 0]))] sz) := by
  refine Met.ofW (cc := cX5_beginsU) (maxL := 1) (ret := (some .boolean)) (by decide) rfl ?_
  intro p e s m args below meth c s₁ B hml hv
  obtain ⟨rfl, hsz, hP, hK, hD0⟩ := hv
  have hx := B.exec
  have hb := B.bytes
  have hr := B.returns
  have hts := atoms_spec (ws := wq_X5_beginsU) B.pre
  have hown : s.vm.findClass RX5 = some m.cls := findClass_of_methodNamed B.named
  have hlocks := B.notSynchronized
  subst hsz
  have hD := hD0.self (sz := s.heap.size)
  generalize hAe : va_A [((fa0 16), .inr (5, [.ref (fa0 11), .ref (fa0 2), .ref (fa0 1), .int 0, .int (-1), .int 0, .int 0, .int 1, .int 0, .long 0, .int 0]))] s.heap.size = A at hD ⊢
  have hA : ∀ q : Nat, s.heap.size ≤ q → A q := fun q h => by rw [← hAe]; exact Or.inr h
  have hS : va_S A s.heap s.heap [] := va_S.rf
  have hP : va_P (dC, dI) vwCl [((fa0 16), .inr (5, [.ref (fa0 11), .ref (fa0 2), .ref (fa0 1), .int 0, .int (-1), .int 0, .int 0, .int 1, .int 0, .long 0, .int 0]))] s.heap := hP
  obtain ⟨H, hH⟩ : ∃ H, H = s.heap := ⟨_, rfl⟩
  rw [← hH] at hP
  have hS : va_S A s.heap H [] := by rw [hH]; exact hS
  have hl := lv_entry ([.ref (fa0 16)]) (n := 1) (Nat.le_of_ble_eq_true rfl)
  rw [lg_entry_eq]
  generalize (lg_sl ([.ref (fa0 16)]) ++ List.replicate (1 - (lg_sl ([.ref (fa0 16)])).length) Slot.unset).toArray = ls at hl ⊢
  have hl : lv_has ls 1 [(0, .ref (fa0 16))] := hl
  refine pq_heap hH ?_
  refine lv_aload_n hx hb dX5_beginsU_0 rfl (lv_at hl 0 rfl) ?_
  refine va_get (D := (dC, dI)) (ci := 5) (v := .int (-1)) (C := RX5) (T := TX5) (N := 11) hx hb hts iq_X5_beginsU_X5 hown hK hP 0 rfl rfl 4 (by decide) (hts (Cond.fieldLink RX5 27 "CodePress$Parser" "kind" "I") (List.mem_of_getElem? (i := 1) rfl)) (fun _ h9 => h9) rfl dX5_beginsU_1 ?_
  refine lv_lookup (off := 102) (tgt := 106) hx hb dX5_beginsU_4 (by decide) (by decide) (by decide) ?_
  refine lv_iconst (v := 0) hx hb dX5_beginsU_106 (by decide) ?_
  have hP9 := pq_P.pick (wc := [((fa0 16), .inr (5, [.ref (fa0 11), .ref (fa0 2), .ref (fa0 1), .int 0, .int (-1), .int 0, .int 0, .int 1, .int 0, .long 0, .int 0]))]) hP [0] rfl
  have hD9 := hD.sub (ws' := [((fa0 16), .inr (5, [.ref (fa0 11), .ref (fa0 2), .ref (fa0 1), .int 0, .int (-1), .int 0, .int 0, .int 1, .int 0, .long 0, .int 0]))]) [0] (by decide) rfl
  refine W.widen (k := 0) (n := 0) (by decide +kernel) (by decide +kernel) ?_
  exact W.zret (v := 0) hx hb hr rfl (fun t ht hW => ⟨⟨0, sq_u [] [], rfl, rfl, pq_B.of ht hP9 hD9⟩, hS.F ht⟩) hS.2.2 dX5_beginsU_107
def wq_X5_readA_r1 : List Cond := [Cond.fieldLink RX5 15 "CodePress$Parser" "code" "LCodePress$Code;", Cond.fieldLink RX5 154 "CodePress$Code" "used" "I", Cond.code yX5_readU cX5_readU 1 none, Cond.fieldLink RX5 27 "CodePress$Parser" "kind" "I", Cond.code yX5_fail cX5_fail 2 none, Cond.fieldLink RX5 55 "CodePress$Parser" "fault" "I", Cond.fieldLink RX5 71 "CodePress$Parser" "at" "I", Cond.fieldLink RX5 58 "CodePress$Parser" "place" "I", Cond.methodLink RX5 37 yX5_fail, Cond.instanceMethod yX5_fail, Cond.selects RX5 yX5_fail yX5_fail, Cond.initialized RX5, Cond.methodLink RX5 171 yX5_readU, Cond.instanceMethod yX5_readU, Cond.selects RX5 yX5_readU yX5_readU, Cond.code yX5_beginsU cX5_beginsU 1 (some .boolean), Cond.methodLink RX5 174 yX5_beginsU, Cond.instanceMethod yX5_beginsU, Cond.selects RX5 yX5_beginsU yX5_beginsU]
def wq_X5_readA : List Cond := Cond.code yX5_readA cX5_readA 4 none :: (wq_X5_readA_r1 ++ wsX50 ++ wsX10)
theorem iq_X5_readA_X5 : ∀ w ∈ wsX50, w ∈ wq_X5_readA := fun _ h => List.mem_cons_of_mem _ (List.mem_append_left _ (List.mem_append_right _ h))
theorem iq_X5_readA_X1 : ∀ w ∈ wsX10, w ∈ wq_X5_readA := fun _ h => List.mem_cons_of_mem _ (List.mem_append_right _ h)
set_option maxRecDepth 20000 in
theorem gq_X5_readA_X5_readU_171_0 : GoodIn wq_X5_readA (Cond.code yX5_readU cX5_readU 1 none :: wq_X5_readU_r1) := goodIn_r _ [3, 4, 5, 6, 7, 8, 9, 10, 11, 12] (by decide +kernel) (by decide +kernel)
set_option maxRecDepth 20000 in
theorem gq_X5_readA_X5_readU_171 : GoodIn wq_X5_readA (wsV RX5 171 RX5 yX5_readU wq_X5_readU) := goodIn_app (goodIn_r _ [13, 14, 15, 12] (by decide +kernel) (by decide +kernel)) (goodIn_ca gq_X5_readA_X5_readU_171_0 (goodIn_sub iq_X5_readA_X5 guX5))
set_option maxRecDepth 20000 in
theorem gq_X5_readA_X5_beginsU_174_0 : GoodIn wq_X5_readA (Cond.code yX5_beginsU cX5_beginsU 1 (some .boolean) :: wq_X5_beginsU_r1) := goodIn_r _ [16, 4] (by decide +kernel) (by decide +kernel)
set_option maxRecDepth 20000 in
theorem gq_X5_readA_X5_beginsU_174 : GoodIn wq_X5_readA (wsV RX5 174 RX5 yX5_beginsU wq_X5_beginsU) := goodIn_app (goodIn_r _ [17, 18, 19, 12] (by decide +kernel) (by decide +kernel)) (goodIn_ca gq_X5_readA_X5_beginsU_174_0 (goodIn_sub iq_X5_readA_X5 guX5))
set_option maxHeartbeats 4000000 in
set_option maxRecDepth 100000 in
theorem cq_X5_readA (l : Launch) (dC : Nat → ClassId) (dI : Nat → Nat → Nat) (cB cI cJ cZ : ClassId) (fa0 : Nat → Nat) (sz : Nat) : Met l yX5_readA wq_X5_readA ({ frames := 2, cells := 0, slots := 0, locals := 41 }) (va_Pc [.ref (fa0 16)] (pq_W (dC, dI) vwCl (tyQ cB cI cJ cZ) [((fa0 16), .inr (5, [.ref (fa0 11), .ref (fa0 2), .ref (fa0 1), .int 0, .int 260, .int 0, .int 0, .int 0, .int (-1), .long 0, .int 0])), ((fa0 2), .inr (1, [.ref (fa0 3), .ref (fa0 4), .ref (fa0 5), .ref (fa0 6), .ref (fa0 7), .ref (fa0 8), .ref (fa0 9), .ref (fa0 31), .ref (fa0 10), .int 1700, .int 3400, .int 0]))] sz)) (va_Qv (fun (_ : SQ) => True) (fun u => pq_B (dC, dI) vwCl [((fa0 2), .inr (1, [.ref (fa0 3), .ref (fa0 4), .ref (fa0 5), .ref (fa0 6), .ref (fa0 7), .ref (fa0 8), .ref (fa0 9), .ref (fa0 31), .ref (fa0 10), .int 1700, .int 3400, .int 0])), ((fa0 16), .inr (5, [.ref (fa0 11), .ref (fa0 2), .ref (fa0 1), .int 0, .int (-1), .int 0, .int 0, .int 1, .int 0, .long 0, .int 0]))] (va_A [((fa0 16), .inr (5, [.ref (fa0 11), .ref (fa0 2), .ref (fa0 1), .int 0, .int 260, .int 0, .int 0, .int 0, .int (-1), .long 0, .int 0])), ((fa0 2), .inr (1, [.ref (fa0 3), .ref (fa0 4), .ref (fa0 5), .ref (fa0 6), .ref (fa0 7), .ref (fa0 8), .ref (fa0 9), .ref (fa0 31), .ref (fa0 10), .int 1700, .int 3400, .int 0]))] sz)) (va_A [((fa0 16), .inr (5, [.ref (fa0 11), .ref (fa0 2), .ref (fa0 1), .int 0, .int 260, .int 0, .int 0, .int 0, .int (-1), .long 0, .int 0])), ((fa0 2), .inr (1, [.ref (fa0 3), .ref (fa0 4), .ref (fa0 5), .ref (fa0 6), .ref (fa0 7), .ref (fa0 8), .ref (fa0 9), .ref (fa0 31), .ref (fa0 10), .int 1700, .int 3400, .int 0]))] sz)) 0 0 (va_A [((fa0 16), .inr (5, [.ref (fa0 11), .ref (fa0 2), .ref (fa0 1), .int 0, .int 260, .int 0, .int 0, .int 0, .int (-1), .long 0, .int 0])), ((fa0 2), .inr (1, [.ref (fa0 3), .ref (fa0 4), .ref (fa0 5), .ref (fa0 6), .ref (fa0 7), .ref (fa0 8), .ref (fa0 9), .ref (fa0 31), .ref (fa0 10), .int 1700, .int 3400, .int 0]))] sz) := by
  refine Met.ofW (cc := cX5_readA) (maxL := 4) (ret := none) (by decide) rfl ?_
  intro p e s m args below meth c s₁ B hml hv
  obtain ⟨rfl, hsz, hP, hK, hD0⟩ := hv
  have hx := B.exec
  have hb := B.bytes
  have hr := B.returns
  have hts := atoms_spec (ws := wq_X5_readA) B.pre
  have hown : s.vm.findClass RX5 = some m.cls := findClass_of_methodNamed B.named
  have hlocks := B.notSynchronized
  subst hsz
  have hD := hD0.self (sz := s.heap.size)
  generalize hAe : va_A [((fa0 16), .inr (5, [.ref (fa0 11), .ref (fa0 2), .ref (fa0 1), .int 0, .int 260, .int 0, .int 0, .int 0, .int (-1), .long 0, .int 0])), ((fa0 2), .inr (1, [.ref (fa0 3), .ref (fa0 4), .ref (fa0 5), .ref (fa0 6), .ref (fa0 7), .ref (fa0 8), .ref (fa0 9), .ref (fa0 31), .ref (fa0 10), .int 1700, .int 3400, .int 0]))] s.heap.size = A at hD ⊢
  have hA : ∀ q : Nat, s.heap.size ≤ q → A q := fun q h => by rw [← hAe]; exact Or.inr h
  have hS : va_S A s.heap s.heap [] := va_S.rf
  have hP : va_P (dC, dI) vwCl [((fa0 16), .inr (5, [.ref (fa0 11), .ref (fa0 2), .ref (fa0 1), .int 0, .int 260, .int 0, .int 0, .int 0, .int (-1), .long 0, .int 0])), ((fa0 2), .inr (1, [.ref (fa0 3), .ref (fa0 4), .ref (fa0 5), .ref (fa0 6), .ref (fa0 7), .ref (fa0 8), .ref (fa0 9), .ref (fa0 31), .ref (fa0 10), .int 1700, .int 3400, .int 0]))] s.heap := hP
  obtain ⟨H, hH⟩ : ∃ H, H = s.heap := ⟨_, rfl⟩
  rw [← hH] at hP
  have hS : va_S A s.heap H [] := by rw [hH]; exact hS
  have hl := lv_entry ([.ref (fa0 16)]) (n := 4) (Nat.le_of_ble_eq_true rfl)
  rw [lg_entry_eq]
  generalize (lg_sl ([.ref (fa0 16)]) ++ List.replicate (4 - (lg_sl ([.ref (fa0 16)])).length) Slot.unset).toArray = ls at hl ⊢
  have hl : lv_has ls 4 [(0, .ref (fa0 16))] := hl
  refine pq_heap hH ?_
  refine lv_aload_n hx hb dX5_readA_0 rfl (lv_at hl 0 rfl) ?_
  refine va_get (D := (dC, dI)) (ci := 5) (v := .ref (fa0 2)) (C := RX5) (T := TX5) (N := 11) hx hb hts iq_X5_readA_X5 hown hK hP 0 rfl rfl 1 (by decide) (hts (Cond.fieldLink RX5 15 "CodePress$Parser" "code" "LCodePress$Code;") (List.mem_of_getElem? (i := 1) rfl)) (fun _ h9 => h9) rfl dX5_readA_1 ?_
  refine va_get (D := (dC, dI)) (ci := 1) (v := .int 1700) (C := RX1) (T := TX1) (N := 12) hx hb hts iq_X5_readA_X1 hown hK hP 1 rfl rfl 9 (by decide) (hts (Cond.fieldLink RX5 154 "CodePress$Code" "used" "I") (List.mem_of_getElem? (i := 2) rfl)) (fun _ h9 => h9) rfl dX5_readA_4 ?_
  refine lv_istore_n (lv' := [(1, .int 1700), (0, .ref (fa0 16))]) hx hb dX5_readA_7 rfl hl (by decide) rfl (fun ls hl => ?_)
  refine lv_aload_n hx hb dX5_readA_8 rfl (lv_at hl 1 rfl) ?_
  refine pq_cv (wr := [((fa0 2), .inr (1, [.ref (fa0 3), .ref (fa0 4), .ref (fa0 5), .ref (fa0 6), .ref (fa0 7), .ref (fa0 8), .ref (fa0 9), .ref (fa0 31), .ref (fa0 10), .int 1700, .int 3400, .int 0]))]) (W1 := (fun u => [((fa0 16), .inr (5, [.ref (fa0 11), .ref (fa0 2), .ref (fa0 1), .int 0, .int (-1), .int 0, .int 0, .int 1, .int 0, .long 0, .int 0]))])) (va_runV (As := []) (rest := []) ⟨hx, hb, hml, hown, hts⟩ (cq_X5_readU l dC dI cB cI cJ cZ fa0 H.size) (cwV 0 hts gq_X5_readA_X5_readU_171 rfl rfl rfl (by decide +kernel) ⟨(by decide +kernel), (by decide +kernel)⟩) ⟨pq_blind, va_recv hK hP (ci := 5) (q0 := 0) rfl rfl, pq_pre hK hP hD [0] rfl rfl⟩ rfl rfl hl.1 rfl (lv_room (Nat.le_of_ble_eq_true rfl)) dX5_readA_9 ⟨(by decide +kernel), (by decide +kernel)⟩) hP hD hS hA [0] [1] rfl rfl rfl (by decide) (fun u1 H locs hw hP hD hS => ?_)
  have hR9 : pq_R (dC, dI) vwCl A [((fa0 2), .inr (1, [.ref (fa0 3), .ref (fa0 4), .ref (fa0 5), .ref (fa0 6), .ref (fa0 7), .ref (fa0 8), .ref (fa0 9), .ref (fa0 31), .ref (fa0 10), .int 1700, .int 3400, .int 0])), ((fa0 16), .inr (5, [.ref (fa0 11), .ref (fa0 2), .ref (fa0 1), .int 0, .int (-1), .int 0, .int 0, .int 1, .int 0, .long 0, .int 0]))] H := ⟨hP, hD⟩
  have hP := hR9.1
  have hD := hR9.2
  refine W.widen (k := 0) (n := 0) (by decide +kernel) (by decide +kernel) ?_
  refine lv_iconst (v := 0) hx hb dX5_readA_12 (by decide) ?_
  refine lv_istore_n (lv' := [(2, .int 0), (1, .int 1700), (0, .ref (fa0 16))]) hx hb dX5_readA_13 rfl hl (by decide) rfl (fun ls hl => ?_)
  refine lv_iload_n hx hb dX5_readA_14 rfl (lv_at hl 0 rfl) ?_
  refine lv_sipush (v := 800) hx hb dX5_readA_15 (by decide) ?_
  refine lv_icmp_gt (tgt := 55) hx hb dX5_readA_18 (by decide) (fun c_ => absurd c_ (by decide)) (fun _ => ?_)
  refine lv_aload_n hx hb dX5_readA_21 rfl (lv_at hl 2 rfl) ?_
  refine pq_ci (wr := [((fa0 2), .inr (1, [.ref (fa0 3), .ref (fa0 4), .ref (fa0 5), .ref (fa0 6), .ref (fa0 7), .ref (fa0 8), .ref (fa0 9), .ref (fa0 31), .ref (fa0 10), .int 1700, .int 3400, .int 0]))]) (W1 := (fun u => [((fa0 16), .inr (5, [.ref (fa0 11), .ref (fa0 2), .ref (fa0 1), .int 0, .int (-1), .int 0, .int 0, .int 1, .int 0, .long 0, .int 0]))])) (va_runV (As := []) (rest := []) ⟨hx, hb, hml, hown, hts⟩ (cq_X5_beginsU l dC dI cB cI cJ cZ fa0 H.size) (cwV 0 hts gq_X5_readA_X5_beginsU_174 rfl rfl rfl (by decide +kernel) ⟨(by decide +kernel), (by decide +kernel)⟩) ⟨pq_blind, va_recv hK hP (ci := 5) (q0 := 1) rfl rfl, pq_pre hK hP hD [1] rfl rfl⟩ rfl rfl hl.1 rfl (lv_room (Nat.le_of_ble_eq_true rfl)) dX5_readA_22 ⟨(by decide +kernel), (by decide +kernel)⟩) hP hD hS hA [1] [0] rfl rfl rfl (by decide) (fun r3 u2 H locs hw hP hD hS => ?_)
  subst hw
  have hR9 : pq_R (dC, dI) vwCl A [((fa0 2), .inr (1, [.ref (fa0 3), .ref (fa0 4), .ref (fa0 5), .ref (fa0 6), .ref (fa0 7), .ref (fa0 8), .ref (fa0 9), .ref (fa0 31), .ref (fa0 10), .int 1700, .int 3400, .int 0])), ((fa0 16), .inr (5, [.ref (fa0 11), .ref (fa0 2), .ref (fa0 1), .int 0, .int (-1), .int 0, .int 0, .int 1, .int 0, .long 0, .int 0]))] H := ⟨hP, hD⟩
  have hP := hR9.1
  have hD := hR9.2
  refine W.widen (k := 0) (n := 0) (by decide +kernel) (by decide +kernel) ?_
  refine lv_if_eq (tgt := 55) hx hb dX5_readA_25 (by decide) (fun _ => ?_) (fun c_ => absurd (by decide) c_)
  have hP9 := pq_P.pick (wc := [((fa0 2), .inr (1, [.ref (fa0 3), .ref (fa0 4), .ref (fa0 5), .ref (fa0 6), .ref (fa0 7), .ref (fa0 8), .ref (fa0 9), .ref (fa0 31), .ref (fa0 10), .int 1700, .int 3400, .int 0])), ((fa0 16), .inr (5, [.ref (fa0 11), .ref (fa0 2), .ref (fa0 1), .int 0, .int (-1), .int 0, .int 0, .int 1, .int 0, .long 0, .int 0]))]) hP [0, 1] rfl
  have hD9 := hD.sub (ws' := [((fa0 2), .inr (1, [.ref (fa0 3), .ref (fa0 4), .ref (fa0 5), .ref (fa0 6), .ref (fa0 7), .ref (fa0 8), .ref (fa0 9), .ref (fa0 31), .ref (fa0 10), .int 1700, .int 3400, .int 0])), ((fa0 16), .inr (5, [.ref (fa0 11), .ref (fa0 2), .ref (fa0 1), .int 0, .int (-1), .int 0, .int 0, .int 1, .int 0, .long 0, .int 0]))]) [0, 1] (by decide) rfl
  refine W.widen (k := 0) (n := 0) (by decide +kernel) (by decide +kernel) ?_
  exact W.vret hx hb hr (fun t ht hW => ⟨⟨sq_u [] [], rfl, trivial, pq_B.of ht hP9 hD9⟩, hS.F ht⟩) hS.2.2 dX5_readA_55
def wq_X5_joinSign : List Cond := Cond.code yX5_joinSign cX5_joinSign 5 none :: (([] : List Cond))
set_option maxHeartbeats 4000000 in
set_option maxRecDepth 100000 in
theorem cq_X5_joinSign (l : Launch) (dC : Nat → ClassId) (dI : Nat → Nat → Nat) (cB cI cJ cZ : ClassId) (fa0 : Nat → Nat) (sz : Nat) : Met l yX5_joinSign wq_X5_joinSign ({ frames := 0, cells := 0, slots := 0, locals := 0 }) (va_Pc [.ref (fa0 16), .int (-1), .int (-1), .int 1700] (pq_W (dC, dI) vwCl (tyQ cB cI cJ cZ) [] sz)) (va_Qv (fun (_ : SQ) => True) (fun u => pq_B (dC, dI) vwCl [] (va_A [] sz)) (va_A [] sz)) 0 0 (va_A [] sz) := by
  refine Met.ofW (cc := cX5_joinSign) (maxL := 5) (ret := none) (by decide) rfl ?_
  intro p e s m args below meth c s₁ B hml hv
  obtain ⟨rfl, hsz, hP, hK, hD0⟩ := hv
  have hx := B.exec
  have hb := B.bytes
  have hr := B.returns
  have hts := atoms_spec (ws := wq_X5_joinSign) B.pre
  have hown : s.vm.findClass RX5 = some m.cls := findClass_of_methodNamed B.named
  have hlocks := B.notSynchronized
  subst hsz
  have hD := hD0.self (sz := s.heap.size)
  generalize hAe : va_A [] s.heap.size = A at hD ⊢
  have hA : ∀ q : Nat, s.heap.size ≤ q → A q := fun q h => by rw [← hAe]; exact Or.inr h
  have hS : va_S A s.heap s.heap [] := va_S.rf
  have hP : va_P (dC, dI) vwCl [] s.heap := hP
  obtain ⟨H, hH⟩ : ∃ H, H = s.heap := ⟨_, rfl⟩
  rw [← hH] at hP
  have hS : va_S A s.heap H [] := by rw [hH]; exact hS
  have hl := lv_entry ([.ref (fa0 16), .int (-1), .int (-1), .int 1700]) (n := 5) (Nat.le_of_ble_eq_true rfl)
  rw [lg_entry_eq]
  generalize (lg_sl ([.ref (fa0 16), .int (-1), .int (-1), .int 1700]) ++ List.replicate (5 - (lg_sl ([.ref (fa0 16), .int (-1), .int (-1), .int 1700])).length) Slot.unset).toArray = ls at hl ⊢
  have hl : lv_has ls 5 [(0, .ref (fa0 16)), (1, .int (-1)), (2, .int (-1)), (3, .int 1700)] := hl
  refine pq_heap hH ?_
  refine lv_iload_n hx hb dX5_joinSign_0 rfl (lv_at hl 1 rfl) ?_
  refine lv_iconst (v := (-1)) hx hb dX5_joinSign_1 (by decide) ?_
  refine lv_icmp_eq (tgt := 28) hx hb dX5_joinSign_2 (by decide) (fun _ => ?_) (fun c_ => absurd (by decide) c_)
  have hP9 := pq_P.pick (wc := []) hP [] rfl
  have hD9 := hD.sub (ws' := []) [] (by decide) rfl
  refine W.widen (k := 0) (n := 0) (by decide +kernel) (by decide +kernel) ?_
  exact W.vret hx hb hr (fun t ht hW => ⟨⟨sq_u [] [], rfl, trivial, pq_B.of ht hP9 hD9⟩, hS.F ht⟩) hS.2.2 dX5_joinSign_28
def wq_X5_readC_r1 : List Cond := [Cond.fieldLink RX5 15 "CodePress$Parser" "code" "LCodePress$Code;", Cond.fieldLink RX5 154 "CodePress$Code" "used" "I", Cond.code yX5_readA cX5_readA 4 none, Cond.code yX5_readU cX5_readU 1 none, Cond.fieldLink RX5 27 "CodePress$Parser" "kind" "I", Cond.code yX5_fail cX5_fail 2 none, Cond.fieldLink RX5 55 "CodePress$Parser" "fault" "I", Cond.fieldLink RX5 71 "CodePress$Parser" "at" "I", Cond.fieldLink RX5 58 "CodePress$Parser" "place" "I", Cond.methodLink RX5 37 yX5_fail, Cond.instanceMethod yX5_fail, Cond.selects RX5 yX5_fail yX5_fail, Cond.initialized RX5, Cond.methodLink RX5 171 yX5_readU, Cond.instanceMethod yX5_readU, Cond.selects RX5 yX5_readU yX5_readU, Cond.code yX5_beginsU cX5_beginsU 1 (some .boolean), Cond.methodLink RX5 174 yX5_beginsU, Cond.instanceMethod yX5_beginsU, Cond.selects RX5 yX5_beginsU yX5_beginsU, Cond.methodLink RX5 164 yX5_readA, Cond.instanceMethod yX5_readA, Cond.selects RX5 yX5_readA yX5_readA, Cond.code yX5_joinSign cX5_joinSign 5 none]
def wq_X5_readC_r2 : List Cond := [Cond.methodLink RX5 167 yX5_joinSign, Cond.instanceMethod yX5_joinSign, Cond.selects RX5 yX5_joinSign yX5_joinSign]
def wq_X5_readC : List Cond := Cond.code yX5_readC cX5_readC 14 none :: ((wq_X5_readC_r1 ++ wq_X5_readC_r2) ++ wsX50 ++ wsX10)
theorem iq_X5_readC_X5 : ∀ w ∈ wsX50, w ∈ wq_X5_readC := fun _ h => List.mem_cons_of_mem _ (List.mem_append_left _ (List.mem_append_right _ h))
theorem iq_X5_readC_X1 : ∀ w ∈ wsX10, w ∈ wq_X5_readC := fun _ h => List.mem_cons_of_mem _ (List.mem_append_right _ h)
set_option maxRecDepth 20000 in
theorem gq_X5_readC_X5_readA_164_0 : GoodIn wq_X5_readC (Cond.code yX5_readA cX5_readA 4 none :: wq_X5_readA_r1) := goodIn_r _ [3, 1, 2, 4, 5, 6, 7, 8, 9, 10, 11, 12, 13, 14, 15, 16, 17, 18, 19, 20] (by decide +kernel) (by decide +kernel)
set_option maxRecDepth 20000 in
theorem gq_X5_readC_X5_readA_164 : GoodIn wq_X5_readC (wsV RX5 164 RX5 yX5_readA wq_X5_readA) := goodIn_app (goodIn_r _ [21, 22, 23, 13] (by decide +kernel) (by decide +kernel)) (goodIn_ca (goodIn_ca gq_X5_readC_X5_readA_164_0 (goodIn_sub iq_X5_readC_X5 guX5)) (goodIn_sub iq_X5_readC_X1 guX1))
set_option maxRecDepth 20000 in
theorem gq_X5_readC_X5_joinSign_167_0 : GoodIn wq_X5_readC (Cond.code yX5_joinSign cX5_joinSign 5 none :: ([] : List Cond)) := goodIn_r _ [24] (by decide +kernel) (by decide +kernel)
set_option maxRecDepth 20000 in
theorem gq_X5_readC_X5_joinSign_167 : GoodIn wq_X5_readC (wsV RX5 167 RX5 yX5_joinSign wq_X5_joinSign) := goodIn_app (goodIn_r _ [25, 26, 27, 13] (by decide +kernel) (by decide +kernel)) (gq_X5_readC_X5_joinSign_167_0 : GoodIn wq_X5_readC wq_X5_joinSign)
set_option maxHeartbeats 4000000 in
set_option maxRecDepth 100000 in
theorem cq_X5_readC (l : Launch) (dC : Nat → ClassId) (dI : Nat → Nat → Nat) (cB cI cJ cZ : ClassId) (fa0 : Nat → Nat) (sz : Nat) : Met l yX5_readC wq_X5_readC ({ frames := 3, cells := 0, slots := 0, locals := 64 }) (va_Pc [.ref (fa0 16)] (pq_W (dC, dI) vwCl (tyQ cB cI cJ cZ) [((fa0 16), .inr (5, [.ref (fa0 11), .ref (fa0 2), .ref (fa0 1), .int 0, .int 260, .int 0, .int 0, .int 0, .int (-1), .long 0, .int 0])), ((fa0 2), .inr (1, [.ref (fa0 3), .ref (fa0 4), .ref (fa0 5), .ref (fa0 6), .ref (fa0 7), .ref (fa0 8), .ref (fa0 9), .ref (fa0 31), .ref (fa0 10), .int 1700, .int 3400, .int 0]))] sz)) (va_Qv (fun (_ : SQ) => True) (fun u => pq_B (dC, dI) vwCl [((fa0 2), .inr (1, [.ref (fa0 3), .ref (fa0 4), .ref (fa0 5), .ref (fa0 6), .ref (fa0 7), .ref (fa0 8), .ref (fa0 9), .ref (fa0 31), .ref (fa0 10), .int 1700, .int 3400, .int 0])), ((fa0 16), .inr (5, [.ref (fa0 11), .ref (fa0 2), .ref (fa0 1), .int 0, .int (-1), .int 0, .int 0, .int 1, .int 0, .long 0, .int 0]))] (va_A [((fa0 16), .inr (5, [.ref (fa0 11), .ref (fa0 2), .ref (fa0 1), .int 0, .int 260, .int 0, .int 0, .int 0, .int (-1), .long 0, .int 0])), ((fa0 2), .inr (1, [.ref (fa0 3), .ref (fa0 4), .ref (fa0 5), .ref (fa0 6), .ref (fa0 7), .ref (fa0 8), .ref (fa0 9), .ref (fa0 31), .ref (fa0 10), .int 1700, .int 3400, .int 0]))] sz)) (va_A [((fa0 16), .inr (5, [.ref (fa0 11), .ref (fa0 2), .ref (fa0 1), .int 0, .int 260, .int 0, .int 0, .int 0, .int (-1), .long 0, .int 0])), ((fa0 2), .inr (1, [.ref (fa0 3), .ref (fa0 4), .ref (fa0 5), .ref (fa0 6), .ref (fa0 7), .ref (fa0 8), .ref (fa0 9), .ref (fa0 31), .ref (fa0 10), .int 1700, .int 3400, .int 0]))] sz)) 0 0 (va_A [((fa0 16), .inr (5, [.ref (fa0 11), .ref (fa0 2), .ref (fa0 1), .int 0, .int 260, .int 0, .int 0, .int 0, .int (-1), .long 0, .int 0])), ((fa0 2), .inr (1, [.ref (fa0 3), .ref (fa0 4), .ref (fa0 5), .ref (fa0 6), .ref (fa0 7), .ref (fa0 8), .ref (fa0 9), .ref (fa0 31), .ref (fa0 10), .int 1700, .int 3400, .int 0]))] sz) := by
  refine Met.ofW (cc := cX5_readC) (maxL := 14) (ret := none) (by decide) rfl ?_
  intro p e s m args below meth c s₁ B hml hv
  obtain ⟨rfl, hsz, hP, hK, hD0⟩ := hv
  have hx := B.exec
  have hb := B.bytes
  have hr := B.returns
  have hts := atoms_spec (ws := wq_X5_readC) B.pre
  have hown : s.vm.findClass RX5 = some m.cls := findClass_of_methodNamed B.named
  have hlocks := B.notSynchronized
  subst hsz
  have hD := hD0.self (sz := s.heap.size)
  generalize hAe : va_A [((fa0 16), .inr (5, [.ref (fa0 11), .ref (fa0 2), .ref (fa0 1), .int 0, .int 260, .int 0, .int 0, .int 0, .int (-1), .long 0, .int 0])), ((fa0 2), .inr (1, [.ref (fa0 3), .ref (fa0 4), .ref (fa0 5), .ref (fa0 6), .ref (fa0 7), .ref (fa0 8), .ref (fa0 9), .ref (fa0 31), .ref (fa0 10), .int 1700, .int 3400, .int 0]))] s.heap.size = A at hD ⊢
  have hA : ∀ q : Nat, s.heap.size ≤ q → A q := fun q h => by rw [← hAe]; exact Or.inr h
  have hS : va_S A s.heap s.heap [] := va_S.rf
  have hP : va_P (dC, dI) vwCl [((fa0 16), .inr (5, [.ref (fa0 11), .ref (fa0 2), .ref (fa0 1), .int 0, .int 260, .int 0, .int 0, .int 0, .int (-1), .long 0, .int 0])), ((fa0 2), .inr (1, [.ref (fa0 3), .ref (fa0 4), .ref (fa0 5), .ref (fa0 6), .ref (fa0 7), .ref (fa0 8), .ref (fa0 9), .ref (fa0 31), .ref (fa0 10), .int 1700, .int 3400, .int 0]))] s.heap := hP
  obtain ⟨H, hH⟩ : ∃ H, H = s.heap := ⟨_, rfl⟩
  rw [← hH] at hP
  have hS : va_S A s.heap H [] := by rw [hH]; exact hS
  have hl := lv_entry ([.ref (fa0 16)]) (n := 14) (Nat.le_of_ble_eq_true rfl)
  rw [lg_entry_eq]
  generalize (lg_sl ([.ref (fa0 16)]) ++ List.replicate (14 - (lg_sl ([.ref (fa0 16)])).length) Slot.unset).toArray = ls at hl ⊢
  have hl : lv_has ls 14 [(0, .ref (fa0 16))] := hl
  refine pq_heap hH ?_
  refine lv_aload_n hx hb dX5_readC_0 rfl (lv_at hl 0 rfl) ?_
  refine va_get (D := (dC, dI)) (ci := 5) (v := .ref (fa0 2)) (C := RX5) (T := TX5) (N := 11) hx hb hts iq_X5_readC_X5 hown hK hP 0 rfl rfl 1 (by decide) (hts (Cond.fieldLink RX5 15 "CodePress$Parser" "code" "LCodePress$Code;") (List.mem_of_getElem? (i := 1) rfl)) (fun _ h9 => h9) rfl dX5_readC_1 ?_
  refine va_get (D := (dC, dI)) (ci := 1) (v := .int 1700) (C := RX1) (T := TX1) (N := 12) hx hb hts iq_X5_readC_X1 hown hK hP 1 rfl rfl 9 (by decide) (hts (Cond.fieldLink RX5 154 "CodePress$Code" "used" "I") (List.mem_of_getElem? (i := 2) rfl)) (fun _ h9 => h9) rfl dX5_readC_4 ?_
  refine lv_istore_n (lv' := [(1, .int 1700), (0, .ref (fa0 16))]) hx hb dX5_readC_7 rfl hl (by decide) rfl (fun ls hl => ?_)
  refine lv_iload_n hx hb dX5_readC_8 rfl (lv_at hl 0 rfl) ?_
  refine lv_istore_n (lv' := [(2, .int 1700), (1, .int 1700), (0, .ref (fa0 16))]) hx hb dX5_readC_9 rfl hl (by decide) rfl (fun ls hl => ?_)
  refine lv_iload_n hx hb dX5_readC_10 rfl (lv_at hl 1 rfl) ?_
  refine lv_istore_n (lv' := [(3, .int 1700), (2, .int 1700), (1, .int 1700), (0, .ref (fa0 16))]) hx hb dX5_readC_11 rfl hl (by decide) rfl (fun ls hl => ?_)
  refine lv_iconst (v := (-1)) hx hb dX5_readC_12 (by decide) ?_
  refine lv_istore (lv' := [(4, .int (-1)), (3, .int 1700), (2, .int 1700), (1, .int 1700), (0, .ref (fa0 16))]) hx hb dX5_readC_13 hl (by decide) rfl (fun ls hl => ?_)
  refine lv_iconst (v := (-1)) hx hb dX5_readC_15 (by decide) ?_
  refine lv_istore (lv' := [(5, .int (-1)), (4, .int (-1)), (3, .int 1700), (2, .int 1700), (1, .int 1700), (0, .ref (fa0 16))]) hx hb dX5_readC_16 hl (by decide) rfl (fun ls hl => ?_)
  refine lv_iconst (v := (-1)) hx hb dX5_readC_18 (by decide) ?_
  refine lv_istore (lv' := [(6, .int (-1)), (5, .int (-1)), (4, .int (-1)), (3, .int 1700), (2, .int 1700), (1, .int 1700), (0, .ref (fa0 16))]) hx hb dX5_readC_19 hl (by decide) rfl (fun ls hl => ?_)
  refine lv_iconst (v := (-1)) hx hb dX5_readC_21 (by decide) ?_
  refine lv_istore (lv' := [(7, .int (-1)), (6, .int (-1)), (5, .int (-1)), (4, .int (-1)), (3, .int 1700), (2, .int 1700), (1, .int 1700), (0, .ref (fa0 16))]) hx hb dX5_readC_22 hl (by decide) rfl (fun ls hl => ?_)
  refine lv_iconst (v := (-1)) hx hb dX5_readC_24 (by decide) ?_
  refine lv_istore (lv' := [(8, .int (-1)), (7, .int (-1)), (6, .int (-1)), (5, .int (-1)), (4, .int (-1)), (3, .int 1700), (2, .int 1700), (1, .int 1700), (0, .ref (fa0 16))]) hx hb dX5_readC_25 hl (by decide) rfl (fun ls hl => ?_)
  refine lv_iconst (v := (-1)) hx hb dX5_readC_27 (by decide) ?_
  refine lv_istore (lv' := [(9, .int (-1)), (8, .int (-1)), (7, .int (-1)), (6, .int (-1)), (5, .int (-1)), (4, .int (-1)), (3, .int 1700), (2, .int 1700), (1, .int 1700), (0, .ref (fa0 16))]) hx hb dX5_readC_28 hl (by decide) rfl (fun ls hl => ?_)
  refine lv_iconst (v := 1) hx hb dX5_readC_30 (by decide) ?_
  refine lv_istore (lv' := [(10, .int 1), (9, .int (-1)), (8, .int (-1)), (7, .int (-1)), (6, .int (-1)), (5, .int (-1)), (4, .int (-1)), (3, .int 1700), (2, .int 1700), (1, .int 1700), (0, .ref (fa0 16))]) hx hb dX5_readC_31 hl (by decide) rfl (fun ls hl => ?_)
  refine lv_iconst (v := 0) hx hb dX5_readC_33 (by decide) ?_
  refine lv_istore (lv' := [(11, .int 0), (10, .int 1), (9, .int (-1)), (8, .int (-1)), (7, .int (-1)), (6, .int (-1)), (5, .int (-1)), (4, .int (-1)), (3, .int 1700), (2, .int 1700), (1, .int 1700), (0, .ref (fa0 16))]) hx hb dX5_readC_34 hl (by decide) rfl (fun ls hl => ?_)
  refine lv_iload hx hb dX5_readC_36 (lv_at hl 0 rfl) ?_
  refine lv_sipush (v := 800) hx hb dX5_readC_38 (by decide) ?_
  refine lv_icmp_gt (tgt := 232) hx hb dX5_readC_41 (by decide) (fun c_ => absurd c_ (by decide)) (fun _ => ?_)
  refine lv_iload hx hb dX5_readC_44 (lv_at hl 1 rfl) ?_
  refine lv_if_eq (tgt := 232) hx hb dX5_readC_46 (by decide) (fun c_ => absurd c_ (by decide)) (fun _ => ?_)
  refine lv_aload_n hx hb dX5_readC_49 rfl (lv_at hl 11 rfl) ?_
  refine pq_cv (wr := []) (W1 := (fun u => [((fa0 2), .inr (1, [.ref (fa0 3), .ref (fa0 4), .ref (fa0 5), .ref (fa0 6), .ref (fa0 7), .ref (fa0 8), .ref (fa0 9), .ref (fa0 31), .ref (fa0 10), .int 1700, .int 3400, .int 0])), ((fa0 16), .inr (5, [.ref (fa0 11), .ref (fa0 2), .ref (fa0 1), .int 0, .int (-1), .int 0, .int 0, .int 1, .int 0, .long 0, .int 0]))])) (va_runV (As := []) (rest := []) ⟨hx, hb, hml, hown, hts⟩ (cq_X5_readA l dC dI cB cI cJ cZ fa0 H.size) (cwV 0 hts gq_X5_readC_X5_readA_164 rfl rfl rfl (by decide +kernel) ⟨(by decide +kernel), (by decide +kernel)⟩) ⟨pq_blind, va_recv hK hP (ci := 5) (q0 := 0) rfl rfl, pq_pre hK hP hD [0, 1] rfl rfl⟩ rfl rfl hl.1 rfl (lv_room (Nat.le_of_ble_eq_true rfl)) dX5_readC_50 ⟨(by decide +kernel), (by decide +kernel)⟩) hP hD hS hA [0, 1] [] rfl rfl rfl (by decide) (fun u1 H locs hw hP hD hS => ?_)
  have hR9 : pq_R (dC, dI) vwCl A [((fa0 2), .inr (1, [.ref (fa0 3), .ref (fa0 4), .ref (fa0 5), .ref (fa0 6), .ref (fa0 7), .ref (fa0 8), .ref (fa0 9), .ref (fa0 31), .ref (fa0 10), .int 1700, .int 3400, .int 0])), ((fa0 16), .inr (5, [.ref (fa0 11), .ref (fa0 2), .ref (fa0 1), .int 0, .int (-1), .int 0, .int 0, .int 1, .int 0, .long 0, .int 0]))] H := ⟨hP, hD⟩
  have hP := hR9.1
  have hD := hR9.2
  refine W.widen (k := 0) (n := 0) (by decide +kernel) (by decide +kernel) ?_
  refine lv_aload_n hx hb dX5_readC_53 rfl (lv_at hl 11 rfl) ?_
  refine lv_iload hx hb dX5_readC_54 (lv_at hl 3 rfl) ?_
  refine lv_iload hx hb dX5_readC_56 (lv_at hl 2 rfl) ?_
  refine lv_iload_n hx hb dX5_readC_58 rfl (lv_at hl 8 rfl) ?_
  refine pq_cv (wr := [((fa0 2), .inr (1, [.ref (fa0 3), .ref (fa0 4), .ref (fa0 5), .ref (fa0 6), .ref (fa0 7), .ref (fa0 8), .ref (fa0 9), .ref (fa0 31), .ref (fa0 10), .int 1700, .int 3400, .int 0])), ((fa0 16), .inr (5, [.ref (fa0 11), .ref (fa0 2), .ref (fa0 1), .int 0, .int (-1), .int 0, .int 0, .int 1, .int 0, .long 0, .int 0]))]) (W1 := (fun u => [])) (va_runV (As := [.int (-1), .int (-1), .int 1700]) (rest := []) ⟨hx, hb, hml, hown, hts⟩ (cq_X5_joinSign l dC dI cB cI cJ cZ fa0 H.size) (cwV 3 hts gq_X5_readC_X5_joinSign_167 rfl rfl rfl (by decide +kernel) ⟨(by decide +kernel), (by decide +kernel)⟩) ⟨pq_blind, va_recv hK hP (ci := 5) (q0 := 1) rfl rfl, pq_pre hK hP hD [] rfl rfl⟩ rfl rfl hl.1 rfl (lv_room (Nat.le_of_ble_eq_true rfl)) dX5_readC_59 ⟨(by decide +kernel), (by decide +kernel)⟩) hP hD hS hA [] [0, 1] rfl rfl rfl (by decide) (fun u2 H locs hw hP hD hS => ?_)
  have hR9 : pq_R (dC, dI) vwCl A [((fa0 2), .inr (1, [.ref (fa0 3), .ref (fa0 4), .ref (fa0 5), .ref (fa0 6), .ref (fa0 7), .ref (fa0 8), .ref (fa0 9), .ref (fa0 31), .ref (fa0 10), .int 1700, .int 3400, .int 0])), ((fa0 16), .inr (5, [.ref (fa0 11), .ref (fa0 2), .ref (fa0 1), .int 0, .int (-1), .int 0, .int 0, .int 1, .int 0, .long 0, .int 0]))] H := ⟨hP, hD⟩
  have hP := hR9.1
  have hD := hR9.2
  refine W.widen (k := 0) (n := 0) (by decide +kernel) (by decide +kernel) ?_
  refine lv_iconst (v := (-1)) hx hb dX5_readC_62 (by decide) ?_
  refine lv_istore (lv' := [(8, .int (-1)), (11, .int 0), (10, .int 1), (9, .int (-1)), (7, .int (-1)), (6, .int (-1)), (5, .int (-1)), (4, .int (-1)), (3, .int 1700), (2, .int 1700), (1, .int 1700), (0, .ref (fa0 16))]) hx hb dX5_readC_63 hl (by decide) rfl (fun ls hl => ?_)
  refine lv_aload_n hx hb dX5_readC_65 rfl (lv_at hl 11 rfl) ?_
  refine va_get (D := (dC, dI)) (ci := 5) (v := .int (-1)) (C := RX5) (T := TX5) (N := 11) hx hb hts iq_X5_readC_X5 hown hK hP 1 rfl rfl 4 (by decide) (hts (Cond.fieldLink RX5 27 "CodePress$Parser" "kind" "I") (List.mem_of_getElem? (i := 5) rfl)) (fun _ h9 => h9) rfl dX5_readC_66 ?_
  refine lv_istore (lv' := [(12, .int (-1)), (8, .int (-1)), (11, .int 0), (10, .int 1), (9, .int (-1)), (7, .int (-1)), (6, .int (-1)), (5, .int (-1)), (4, .int (-1)), (3, .int 1700), (2, .int 1700), (1, .int 1700), (0, .ref (fa0 16))]) hx hb dX5_readC_69 hl (by decide) rfl (fun ls hl => ?_)
  refine lv_aload_n hx hb dX5_readC_71 rfl (lv_at hl 12 rfl) ?_
  refine va_get (D := (dC, dI)) (ci := 5) (v := .int 0) (C := RX5) (T := TX5) (N := 11) hx hb hts iq_X5_readC_X5 hown hK hP 1 rfl rfl 5 (by decide) (hts (Cond.fieldLink RX5 71 "CodePress$Parser" "at" "I") (List.mem_of_getElem? (i := 8) rfl)) (fun _ h9 => h9) rfl dX5_readC_72 ?_
  refine lv_istore (lv' := [(13, .int 0), (12, .int (-1)), (8, .int (-1)), (11, .int 0), (10, .int 1), (9, .int (-1)), (7, .int (-1)), (6, .int (-1)), (5, .int (-1)), (4, .int (-1)), (3, .int 1700), (2, .int 1700), (1, .int 1700), (0, .ref (fa0 16))]) hx hb dX5_readC_75 hl (by decide) rfl (fun ls hl => ?_)
  refine lv_iload hx hb dX5_readC_77 (lv_at hl 1 rfl) ?_
  refine lv_bipush (v := 42) hx hb dX5_readC_79 (by decide) ?_
  refine lv_icmp_eq (tgt := 98) hx hb dX5_readC_81 (by decide) (fun c_ => absurd c_ (by decide)) (fun _ => ?_)
  refine lv_iload hx hb dX5_readC_84 (lv_at hl 1 rfl) ?_
  refine lv_bipush (v := 47) hx hb dX5_readC_86 (by decide) ?_
  refine lv_icmp_eq (tgt := 98) hx hb dX5_readC_88 (by decide) (fun c_ => absurd c_ (by decide)) (fun _ => ?_)
  refine lv_iload hx hb dX5_readC_91 (lv_at hl 1 rfl) ?_
  refine lv_bipush (v := 37) hx hb dX5_readC_93 (by decide) ?_
  refine lv_icmp_ne (tgt := 113) hx hb dX5_readC_95 (by decide) (fun _ => ?_) (fun c_ => absurd c_ (by decide))
  refine lv_aload_n hx hb dX5_readC_113 rfl (lv_at hl 13 rfl) ?_
  refine lv_iload hx hb dX5_readC_114 (lv_at hl 7 rfl) ?_
  refine lv_iload hx hb dX5_readC_116 (lv_at hl 6 rfl) ?_
  refine lv_iload_n hx hb dX5_readC_118 rfl (lv_at hl 11 rfl) ?_
  refine pq_cv (wr := [((fa0 2), .inr (1, [.ref (fa0 3), .ref (fa0 4), .ref (fa0 5), .ref (fa0 6), .ref (fa0 7), .ref (fa0 8), .ref (fa0 9), .ref (fa0 31), .ref (fa0 10), .int 1700, .int 3400, .int 0])), ((fa0 16), .inr (5, [.ref (fa0 11), .ref (fa0 2), .ref (fa0 1), .int 0, .int (-1), .int 0, .int 0, .int 1, .int 0, .long 0, .int 0]))]) (W1 := (fun u => [])) (va_runV (As := [.int (-1), .int (-1), .int 1700]) (rest := []) ⟨hx, hb, hml, hown, hts⟩ (cq_X5_joinSign l dC dI cB cI cJ cZ fa0 H.size) (cwV 3 hts gq_X5_readC_X5_joinSign_167 rfl rfl rfl (by decide +kernel) ⟨(by decide +kernel), (by decide +kernel)⟩) ⟨pq_blind, va_recv hK hP (ci := 5) (q0 := 1) rfl rfl, pq_pre hK hP hD [] rfl rfl⟩ rfl rfl hl.1 rfl (lv_room (Nat.le_of_ble_eq_true rfl)) dX5_readC_119 ⟨(by decide +kernel), (by decide +kernel)⟩) hP hD hS hA [] [0, 1] rfl rfl rfl (by decide) (fun u3 H locs hw hP hD hS => ?_)
  have hR9 : pq_R (dC, dI) vwCl A [((fa0 2), .inr (1, [.ref (fa0 3), .ref (fa0 4), .ref (fa0 5), .ref (fa0 6), .ref (fa0 7), .ref (fa0 8), .ref (fa0 9), .ref (fa0 31), .ref (fa0 10), .int 1700, .int 3400, .int 0])), ((fa0 16), .inr (5, [.ref (fa0 11), .ref (fa0 2), .ref (fa0 1), .int 0, .int (-1), .int 0, .int 0, .int 1, .int 0, .long 0, .int 0]))] H := ⟨hP, hD⟩
  have hP := hR9.1
  have hD := hR9.2
  refine W.widen (k := 0) (n := 0) (by decide +kernel) (by decide +kernel) ?_
  refine lv_iconst (v := (-1)) hx hb dX5_readC_122 (by decide) ?_
  refine lv_istore (lv' := [(6, .int (-1)), (13, .int 0), (12, .int (-1)), (8, .int (-1)), (11, .int 0), (10, .int 1), (9, .int (-1)), (7, .int (-1)), (5, .int (-1)), (4, .int (-1)), (3, .int 1700), (2, .int 1700), (1, .int 1700), (0, .ref (fa0 16))]) hx hb dX5_readC_123 hl (by decide) rfl (fun ls hl => ?_)
  refine lv_iload hx hb dX5_readC_125 (lv_at hl 2 rfl) ?_
  refine lv_bipush (v := 43) hx hb dX5_readC_127 (by decide) ?_
  refine lv_icmp_eq (tgt := 139) hx hb dX5_readC_129 (by decide) (fun c_ => absurd c_ (by decide)) (fun _ => ?_)
  refine lv_iload hx hb dX5_readC_132 (lv_at hl 2 rfl) ?_
  refine lv_bipush (v := 45) hx hb dX5_readC_134 (by decide) ?_
  refine lv_icmp_ne (tgt := 162) hx hb dX5_readC_136 (by decide) (fun _ => ?_) (fun c_ => absurd c_ (by decide))
  refine lv_aload_n hx hb dX5_readC_162 rfl (lv_at hl 13 rfl) ?_
  refine lv_iload hx hb dX5_readC_163 (lv_at hl 9 rfl) ?_
  refine lv_iload hx hb dX5_readC_165 (lv_at hl 8 rfl) ?_
  refine lv_iload_n hx hb dX5_readC_167 rfl (lv_at hl 12 rfl) ?_
  refine pq_cv (wr := [((fa0 2), .inr (1, [.ref (fa0 3), .ref (fa0 4), .ref (fa0 5), .ref (fa0 6), .ref (fa0 7), .ref (fa0 8), .ref (fa0 9), .ref (fa0 31), .ref (fa0 10), .int 1700, .int 3400, .int 0])), ((fa0 16), .inr (5, [.ref (fa0 11), .ref (fa0 2), .ref (fa0 1), .int 0, .int (-1), .int 0, .int 0, .int 1, .int 0, .long 0, .int 0]))]) (W1 := (fun u => [])) (va_runV (As := [.int (-1), .int (-1), .int 1700]) (rest := []) ⟨hx, hb, hml, hown, hts⟩ (cq_X5_joinSign l dC dI cB cI cJ cZ fa0 H.size) (cwV 3 hts gq_X5_readC_X5_joinSign_167 rfl rfl rfl (by decide +kernel) ⟨(by decide +kernel), (by decide +kernel)⟩) ⟨pq_blind, va_recv hK hP (ci := 5) (q0 := 1) rfl rfl, pq_pre hK hP hD [] rfl rfl⟩ rfl rfl hl.1 rfl (lv_room (Nat.le_of_ble_eq_true rfl)) dX5_readC_168 ⟨(by decide +kernel), (by decide +kernel)⟩) hP hD hS hA [] [0, 1] rfl rfl rfl (by decide) (fun u4 H locs hw hP hD hS => ?_)
  have hR9 : pq_R (dC, dI) vwCl A [((fa0 2), .inr (1, [.ref (fa0 3), .ref (fa0 4), .ref (fa0 5), .ref (fa0 6), .ref (fa0 7), .ref (fa0 8), .ref (fa0 9), .ref (fa0 31), .ref (fa0 10), .int 1700, .int 3400, .int 0])), ((fa0 16), .inr (5, [.ref (fa0 11), .ref (fa0 2), .ref (fa0 1), .int 0, .int (-1), .int 0, .int 0, .int 1, .int 0, .long 0, .int 0]))] H := ⟨hP, hD⟩
  have hP := hR9.1
  have hD := hR9.2
  refine W.widen (k := 0) (n := 0) (by decide +kernel) (by decide +kernel) ?_
  refine lv_iload hx hb dX5_readC_171 (lv_at hl 9 rfl) ?_
  refine lv_iconst (v := (-1)) hx hb dX5_readC_173 (by decide) ?_
  refine lv_icmp_ne (tgt := 196) hx hb dX5_readC_174 (by decide) (fun c_ => absurd (by decide) c_) (fun _ => ?_)
  refine lv_iload hx hb dX5_readC_177 (lv_at hl 2 rfl) ?_
  refine lv_sipush (v := 256) hx hb dX5_readC_179 (by decide) ?_
  refine lv_icmp_eq (tgt := 192) hx hb dX5_readC_182 (by decide) (fun c_ => absurd c_ (by decide)) (fun _ => ?_)
  refine lv_iload hx hb dX5_readC_185 (lv_at hl 2 rfl) ?_
  refine lv_bipush (v := 60) hx hb dX5_readC_187 (by decide) ?_
  refine lv_icmp_ne (tgt := 196) hx hb dX5_readC_189 (by decide) (fun _ => ?_) (fun c_ => absurd c_ (by decide))
  refine lv_iconst (v := 0) hx hb dX5_readC_196 (by decide) ?_
  refine lv_istore (lv' := [(10, .int 0), (6, .int (-1)), (13, .int 0), (12, .int (-1)), (8, .int (-1)), (11, .int 0), (9, .int (-1)), (7, .int (-1)), (5, .int (-1)), (4, .int (-1)), (3, .int 1700), (2, .int 1700), (1, .int 1700), (0, .ref (fa0 16))]) hx hb dX5_readC_197 hl (by decide) rfl (fun ls hl => ?_)
  refine lv_iload hx hb dX5_readC_199 (lv_at hl 0 rfl) ?_
  refine lv_if_eq (tgt := 226) hx hb dX5_readC_201 (by decide) (fun _ => ?_) (fun c_ => absurd (by decide) c_)
  refine lv_iinc (v := 1) (lv' := [(11, .int 1), (10, .int 0), (6, .int (-1)), (13, .int 0), (12, .int (-1)), (8, .int (-1)), (9, .int (-1)), (7, .int (-1)), (5, .int (-1)), (4, .int (-1)), (3, .int 1700), (2, .int 1700), (1, .int 1700), (0, .ref (fa0 16))]) hx hb dX5_readC_226 hl (k := 5) rfl (by decide) (by decide) rfl (fun ls hl => ?_)
  refine lv_goto (tgt := 36) hx hb dX5_readC_229 (by decide) ?_
  refine lv_iload hx hb dX5_readC_36 (lv_at hl 0 rfl) ?_
  refine lv_sipush (v := 800) hx hb dX5_readC_38 (by decide) ?_
  refine lv_icmp_gt (tgt := 232) hx hb dX5_readC_41 (by decide) (fun c_ => absurd c_ (by decide)) (fun _ => ?_)
  refine lv_iload hx hb dX5_readC_44 (lv_at hl 1 rfl) ?_
  refine lv_if_eq (tgt := 232) hx hb dX5_readC_46 (by decide) (fun _ => ?_) (fun c_ => absurd (by decide) c_)
  have hP9 := pq_P.pick (wc := [((fa0 2), .inr (1, [.ref (fa0 3), .ref (fa0 4), .ref (fa0 5), .ref (fa0 6), .ref (fa0 7), .ref (fa0 8), .ref (fa0 9), .ref (fa0 31), .ref (fa0 10), .int 1700, .int 3400, .int 0])), ((fa0 16), .inr (5, [.ref (fa0 11), .ref (fa0 2), .ref (fa0 1), .int 0, .int (-1), .int 0, .int 0, .int 1, .int 0, .long 0, .int 0]))]) hP [0, 1] rfl
  have hD9 := hD.sub (ws' := [((fa0 2), .inr (1, [.ref (fa0 3), .ref (fa0 4), .ref (fa0 5), .ref (fa0 6), .ref (fa0 7), .ref (fa0 8), .ref (fa0 9), .ref (fa0 31), .ref (fa0 10), .int 1700, .int 3400, .int 0])), ((fa0 16), .inr (5, [.ref (fa0 11), .ref (fa0 2), .ref (fa0 1), .int 0, .int (-1), .int 0, .int 0, .int 1, .int 0, .long 0, .int 0]))]) [0, 1] (by decide) rfl
  refine W.widen (k := 0) (n := 0) (by decide +kernel) (by decide +kernel) ?_
  exact W.vret hx hb hr (fun t ht hW => ⟨⟨sq_u [] [], rfl, trivial, pq_B.of ht hP9 hD9⟩, hS.F ht⟩) hS.2.2 dX5_readC_232
def wq_X5_readE_r1 : List Cond := [Cond.fieldLink RX5 27 "CodePress$Parser" "kind" "I", Cond.code yX5_readC cX5_readC 14 none, Cond.fieldLink RX5 15 "CodePress$Parser" "code" "LCodePress$Code;", Cond.fieldLink RX5 154 "CodePress$Code" "used" "I", Cond.code yX5_readA cX5_readA 4 none, Cond.code yX5_readU cX5_readU 1 none, Cond.code yX5_fail cX5_fail 2 none, Cond.fieldLink RX5 55 "CodePress$Parser" "fault" "I", Cond.fieldLink RX5 71 "CodePress$Parser" "at" "I", Cond.fieldLink RX5 58 "CodePress$Parser" "place" "I", Cond.methodLink RX5 37 yX5_fail, Cond.instanceMethod yX5_fail, Cond.selects RX5 yX5_fail yX5_fail, Cond.initialized RX5, Cond.methodLink RX5 171 yX5_readU, Cond.instanceMethod yX5_readU, Cond.selects RX5 yX5_readU yX5_readU, Cond.code yX5_beginsU cX5_beginsU 1 (some .boolean), Cond.methodLink RX5 174 yX5_beginsU, Cond.instanceMethod yX5_beginsU, Cond.selects RX5 yX5_beginsU yX5_beginsU, Cond.methodLink RX5 164 yX5_readA, Cond.instanceMethod yX5_readA, Cond.selects RX5 yX5_readA yX5_readA]
def wq_X5_readE_r2 : List Cond := [Cond.code yX5_joinSign cX5_joinSign 5 none, Cond.methodLink RX5 167 yX5_joinSign, Cond.instanceMethod yX5_joinSign, Cond.selects RX5 yX5_joinSign yX5_joinSign, Cond.methodLink RX5 151 yX5_readC, Cond.instanceMethod yX5_readC, Cond.selects RX5 yX5_readC yX5_readC]
def wq_X5_readE : List Cond := Cond.code yX5_readE cX5_readE 1 none :: ((wq_X5_readE_r1 ++ wq_X5_readE_r2) ++ wsX50 ++ wsX10)
theorem iq_X5_readE_X5 : ∀ w ∈ wsX50, w ∈ wq_X5_readE := fun _ h => List.mem_cons_of_mem _ (List.mem_append_left _ (List.mem_append_right _ h))
theorem iq_X5_readE_X1 : ∀ w ∈ wsX10, w ∈ wq_X5_readE := fun _ h => List.mem_cons_of_mem _ (List.mem_append_right _ h)
set_option maxRecDepth 20000 in
theorem gq_X5_readE_X5_readC_151_0 : GoodIn wq_X5_readE (Cond.code yX5_readC cX5_readC 14 none :: (wq_X5_readC_r1 ++ wq_X5_readC_r2)) := goodIn_r _ [2, 3, 4, 5, 6, 1, 7, 8, 9, 10, 11, 12, 13, 14, 15, 16, 17, 18, 19, 20, 21, 22, 23, 24, 25, 26, 27, 28] (by decide +kernel) (by decide +kernel)
set_option maxRecDepth 20000 in
theorem gq_X5_readE_X5_readC_151 : GoodIn wq_X5_readE (wsV RX5 151 RX5 yX5_readC wq_X5_readC) := goodIn_app (goodIn_r _ [29, 30, 31, 14] (by decide +kernel) (by decide +kernel)) (goodIn_ca (goodIn_ca gq_X5_readE_X5_readC_151_0 (goodIn_sub iq_X5_readE_X5 guX5)) (goodIn_sub iq_X5_readE_X1 guX1))
set_option maxHeartbeats 4000000 in
set_option maxRecDepth 100000 in
theorem cq_X5_readE (l : Launch) (dC : Nat → ClassId) (dI : Nat → Nat → Nat) (cB cI cJ cZ : ClassId) (fa0 : Nat → Nat) (sz : Nat) : Met l yX5_readE wq_X5_readE ({ frames := 4, cells := 0, slots := 0, locals := 97 }) (va_Pc [.ref (fa0 16)] (pq_W (dC, dI) vwCl (tyQ cB cI cJ cZ) [((fa0 16), .inr (5, [.ref (fa0 11), .ref (fa0 2), .ref (fa0 1), .int 0, .int 260, .int 0, .int 0, .int 0, .int (-1), .long 0, .int 0])), ((fa0 2), .inr (1, [.ref (fa0 3), .ref (fa0 4), .ref (fa0 5), .ref (fa0 6), .ref (fa0 7), .ref (fa0 8), .ref (fa0 9), .ref (fa0 31), .ref (fa0 10), .int 1700, .int 3400, .int 0]))] sz)) (va_Qv (fun (_ : SQ) => True) (fun u => pq_B (dC, dI) vwCl [((fa0 2), .inr (1, [.ref (fa0 3), .ref (fa0 4), .ref (fa0 5), .ref (fa0 6), .ref (fa0 7), .ref (fa0 8), .ref (fa0 9), .ref (fa0 31), .ref (fa0 10), .int 1700, .int 3400, .int 0])), ((fa0 16), .inr (5, [.ref (fa0 11), .ref (fa0 2), .ref (fa0 1), .int 0, .int (-1), .int 0, .int 0, .int 1, .int 0, .long 0, .int 0]))] (va_A [((fa0 16), .inr (5, [.ref (fa0 11), .ref (fa0 2), .ref (fa0 1), .int 0, .int 260, .int 0, .int 0, .int 0, .int (-1), .long 0, .int 0])), ((fa0 2), .inr (1, [.ref (fa0 3), .ref (fa0 4), .ref (fa0 5), .ref (fa0 6), .ref (fa0 7), .ref (fa0 8), .ref (fa0 9), .ref (fa0 31), .ref (fa0 10), .int 1700, .int 3400, .int 0]))] sz)) (va_A [((fa0 16), .inr (5, [.ref (fa0 11), .ref (fa0 2), .ref (fa0 1), .int 0, .int 260, .int 0, .int 0, .int 0, .int (-1), .long 0, .int 0])), ((fa0 2), .inr (1, [.ref (fa0 3), .ref (fa0 4), .ref (fa0 5), .ref (fa0 6), .ref (fa0 7), .ref (fa0 8), .ref (fa0 9), .ref (fa0 31), .ref (fa0 10), .int 1700, .int 3400, .int 0]))] sz)) 0 0 (va_A [((fa0 16), .inr (5, [.ref (fa0 11), .ref (fa0 2), .ref (fa0 1), .int 0, .int 260, .int 0, .int 0, .int 0, .int (-1), .long 0, .int 0])), ((fa0 2), .inr (1, [.ref (fa0 3), .ref (fa0 4), .ref (fa0 5), .ref (fa0 6), .ref (fa0 7), .ref (fa0 8), .ref (fa0 9), .ref (fa0 31), .ref (fa0 10), .int 1700, .int 3400, .int 0]))] sz) := by
  refine Met.ofW (cc := cX5_readE) (maxL := 1) (ret := none) (by decide) rfl ?_
  intro p e s m args below meth c s₁ B hml hv
  obtain ⟨rfl, hsz, hP, hK, hD0⟩ := hv
  have hx := B.exec
  have hb := B.bytes
  have hr := B.returns
  have hts := atoms_spec (ws := wq_X5_readE) B.pre
  have hown : s.vm.findClass RX5 = some m.cls := findClass_of_methodNamed B.named
  have hlocks := B.notSynchronized
  subst hsz
  have hD := hD0.self (sz := s.heap.size)
  generalize hAe : va_A [((fa0 16), .inr (5, [.ref (fa0 11), .ref (fa0 2), .ref (fa0 1), .int 0, .int 260, .int 0, .int 0, .int 0, .int (-1), .long 0, .int 0])), ((fa0 2), .inr (1, [.ref (fa0 3), .ref (fa0 4), .ref (fa0 5), .ref (fa0 6), .ref (fa0 7), .ref (fa0 8), .ref (fa0 9), .ref (fa0 31), .ref (fa0 10), .int 1700, .int 3400, .int 0]))] s.heap.size = A at hD ⊢
  have hA : ∀ q : Nat, s.heap.size ≤ q → A q := fun q h => by rw [← hAe]; exact Or.inr h
  have hS : va_S A s.heap s.heap [] := va_S.rf
  have hP : va_P (dC, dI) vwCl [((fa0 16), .inr (5, [.ref (fa0 11), .ref (fa0 2), .ref (fa0 1), .int 0, .int 260, .int 0, .int 0, .int 0, .int (-1), .long 0, .int 0])), ((fa0 2), .inr (1, [.ref (fa0 3), .ref (fa0 4), .ref (fa0 5), .ref (fa0 6), .ref (fa0 7), .ref (fa0 8), .ref (fa0 9), .ref (fa0 31), .ref (fa0 10), .int 1700, .int 3400, .int 0]))] s.heap := hP
  obtain ⟨H, hH⟩ : ∃ H, H = s.heap := ⟨_, rfl⟩
  rw [← hH] at hP
  have hS : va_S A s.heap H [] := by rw [hH]; exact hS
  have hl := lv_entry ([.ref (fa0 16)]) (n := 1) (Nat.le_of_ble_eq_true rfl)
  rw [lg_entry_eq]
  generalize (lg_sl ([.ref (fa0 16)]) ++ List.replicate (1 - (lg_sl ([.ref (fa0 16)])).length) Slot.unset).toArray = ls at hl ⊢
  have hl : lv_has ls 1 [(0, .ref (fa0 16))] := hl
  refine pq_heap hH ?_
  refine lv_aload_n hx hb dX5_readE_0 rfl (lv_at hl 0 rfl) ?_
  refine va_get (D := (dC, dI)) (ci := 5) (v := .int 260) (C := RX5) (T := TX5) (N := 11) hx hb hts iq_X5_readE_X5 hown hK hP 0 rfl rfl 4 (by decide) (hts (Cond.fieldLink RX5 27 "CodePress$Parser" "kind" "I") (List.mem_of_getElem? (i := 1) rfl)) (fun _ h9 => h9) rfl dX5_readE_1 ?_
  refine lv_tableOut (tgt := 87) hx hb dX5_readE_4 (by decide) (by decide) ?_
  refine lv_aload_n hx hb dX5_readE_87 rfl (lv_at hl 0 rfl) ?_
  refine pq_cv (wr := []) (W1 := (fun u => [((fa0 2), .inr (1, [.ref (fa0 3), .ref (fa0 4), .ref (fa0 5), .ref (fa0 6), .ref (fa0 7), .ref (fa0 8), .ref (fa0 9), .ref (fa0 31), .ref (fa0 10), .int 1700, .int 3400, .int 0])), ((fa0 16), .inr (5, [.ref (fa0 11), .ref (fa0 2), .ref (fa0 1), .int 0, .int (-1), .int 0, .int 0, .int 1, .int 0, .long 0, .int 0]))])) (va_runV (As := []) (rest := []) ⟨hx, hb, hml, hown, hts⟩ (cq_X5_readC l dC dI cB cI cJ cZ fa0 H.size) (cwV 0 hts gq_X5_readE_X5_readC_151 rfl rfl rfl (by decide +kernel) ⟨(by decide +kernel), (by decide +kernel)⟩) ⟨pq_blind, va_recv hK hP (ci := 5) (q0 := 0) rfl rfl, pq_pre hK hP hD [0, 1] rfl rfl⟩ rfl rfl hl.1 rfl (lv_room (Nat.le_of_ble_eq_true rfl)) dX5_readE_88 ⟨(by decide +kernel), (by decide +kernel)⟩) hP hD hS hA [0, 1] [] rfl rfl rfl (by decide) (fun u1 H locs hw hP hD hS => ?_)
  have hR9 : pq_R (dC, dI) vwCl A [((fa0 2), .inr (1, [.ref (fa0 3), .ref (fa0 4), .ref (fa0 5), .ref (fa0 6), .ref (fa0 7), .ref (fa0 8), .ref (fa0 9), .ref (fa0 31), .ref (fa0 10), .int 1700, .int 3400, .int 0])), ((fa0 16), .inr (5, [.ref (fa0 11), .ref (fa0 2), .ref (fa0 1), .int 0, .int (-1), .int 0, .int 0, .int 1, .int 0, .long 0, .int 0]))] H := ⟨hP, hD⟩
  have hP := hR9.1
  have hD := hR9.2
  refine W.widen (k := 0) (n := 0) (by decide +kernel) (by decide +kernel) ?_
  have hP9 := pq_P.pick (wc := [((fa0 2), .inr (1, [.ref (fa0 3), .ref (fa0 4), .ref (fa0 5), .ref (fa0 6), .ref (fa0 7), .ref (fa0 8), .ref (fa0 9), .ref (fa0 31), .ref (fa0 10), .int 1700, .int 3400, .int 0])), ((fa0 16), .inr (5, [.ref (fa0 11), .ref (fa0 2), .ref (fa0 1), .int 0, .int (-1), .int 0, .int 0, .int 1, .int 0, .long 0, .int 0]))]) hP [0, 1] rfl
  have hD9 := hD.sub (ws' := [((fa0 2), .inr (1, [.ref (fa0 3), .ref (fa0 4), .ref (fa0 5), .ref (fa0 6), .ref (fa0 7), .ref (fa0 8), .ref (fa0 9), .ref (fa0 31), .ref (fa0 10), .int 1700, .int 3400, .int 0])), ((fa0 16), .inr (5, [.ref (fa0 11), .ref (fa0 2), .ref (fa0 1), .int 0, .int (-1), .int 0, .int 0, .int 1, .int 0, .long 0, .int 0]))]) [0, 1] (by decide) rfl
  refine W.widen (k := 0) (n := 0) (by decide +kernel) (by decide +kernel) ?_
  exact W.vret hx hb hr (fun t ht hW => ⟨⟨sq_u [] [], rfl, trivial, pq_B.of ht hP9 hD9⟩, hS.F ht⟩) hS.2.2 dX5_readE_91
def wq_X5_fail_1_r1 : List Cond := [Cond.fieldLink RX5 55 "CodePress$Parser" "fault" "I"]
def wq_X5_fail_1 : List Cond := Cond.code yX5_fail cX5_fail 2 none :: (wq_X5_fail_1_r1 ++ wsX50)
theorem iq_X5_fail_1_X5 : ∀ w ∈ wsX50, w ∈ wq_X5_fail_1 := fun _ h => List.mem_cons_of_mem _ (List.mem_append_right _ h)
set_option maxHeartbeats 4000000 in
set_option maxRecDepth 100000 in
theorem cq_X5_fail_1 (l : Launch) (dC : Nat → ClassId) (dI : Nat → Nat → Nat) (cB cI cJ cZ : ClassId) (fa0 : Nat → Nat) (sz : Nat) : Met l yX5_fail wq_X5_fail_1 ({ frames := 0, cells := 0, slots := 0, locals := 0 }) (va_Pc [.ref (fa0 16), .int 1] (pq_W (dC, dI) vwCl (tyQ cB cI cJ cZ) [((fa0 16), .inr (5, [.ref (fa0 11), .ref (fa0 2), .ref (fa0 1), .int 0, .int (-1), .int 0, .int 0, .int 1, .int 0, .long 0, .int 0]))] sz)) (va_Qv (fun (_ : SQ) => True) (fun u => pq_B (dC, dI) vwCl [((fa0 16), .inr (5, [.ref (fa0 11), .ref (fa0 2), .ref (fa0 1), .int 0, .int (-1), .int 0, .int 0, .int 1, .int 0, .long 0, .int 0]))] (va_A [((fa0 16), .inr (5, [.ref (fa0 11), .ref (fa0 2), .ref (fa0 1), .int 0, .int (-1), .int 0, .int 0, .int 1, .int 0, .long 0, .int 0]))] sz)) (va_A [((fa0 16), .inr (5, [.ref (fa0 11), .ref (fa0 2), .ref (fa0 1), .int 0, .int (-1), .int 0, .int 0, .int 1, .int 0, .long 0, .int 0]))] sz)) 0 0 (va_A [((fa0 16), .inr (5, [.ref (fa0 11), .ref (fa0 2), .ref (fa0 1), .int 0, .int (-1), .int 0, .int 0, .int 1, .int 0, .long 0, .int 0]))] sz) := by
  refine Met.ofW (cc := cX5_fail) (maxL := 2) (ret := none) (by decide) rfl ?_
  intro p e s m args below meth c s₁ B hml hv
  obtain ⟨rfl, hsz, hP, hK, hD0⟩ := hv
  have hx := B.exec
  have hb := B.bytes
  have hr := B.returns
  have hts := atoms_spec (ws := wq_X5_fail_1) B.pre
  have hown : s.vm.findClass RX5 = some m.cls := findClass_of_methodNamed B.named
  have hlocks := B.notSynchronized
  subst hsz
  have hD := hD0.self (sz := s.heap.size)
  generalize hAe : va_A [((fa0 16), .inr (5, [.ref (fa0 11), .ref (fa0 2), .ref (fa0 1), .int 0, .int (-1), .int 0, .int 0, .int 1, .int 0, .long 0, .int 0]))] s.heap.size = A at hD ⊢
  have hA : ∀ q : Nat, s.heap.size ≤ q → A q := fun q h => by rw [← hAe]; exact Or.inr h
  have hS : va_S A s.heap s.heap [] := va_S.rf
  have hP : va_P (dC, dI) vwCl [((fa0 16), .inr (5, [.ref (fa0 11), .ref (fa0 2), .ref (fa0 1), .int 0, .int (-1), .int 0, .int 0, .int 1, .int 0, .long 0, .int 0]))] s.heap := hP
  obtain ⟨H, hH⟩ : ∃ H, H = s.heap := ⟨_, rfl⟩
  rw [← hH] at hP
  have hS : va_S A s.heap H [] := by rw [hH]; exact hS
  have hl := lv_entry ([.ref (fa0 16), .int 1]) (n := 2) (Nat.le_of_ble_eq_true rfl)
  rw [lg_entry_eq]
  generalize (lg_sl ([.ref (fa0 16), .int 1]) ++ List.replicate (2 - (lg_sl ([.ref (fa0 16), .int 1])).length) Slot.unset).toArray = ls at hl ⊢
  have hl : lv_has ls 2 [(0, .ref (fa0 16)), (1, .int 1)] := hl
  refine pq_heap hH ?_
  refine lv_aload_n hx hb dX5_fail_0 rfl (lv_at hl 0 rfl) ?_
  refine va_get (D := (dC, dI)) (ci := 5) (v := .int 1) (C := RX5) (T := TX5) (N := 11) hx hb hts iq_X5_fail_1_X5 hown hK hP 0 rfl rfl 7 (by decide) (hts (Cond.fieldLink RX5 55 "CodePress$Parser" "fault" "I") (List.mem_of_getElem? (i := 1) rfl)) (fun _ h9 => h9) rfl dX5_fail_1 ?_
  refine lv_if_ne (tgt := 25) hx hb dX5_fail_4 (by decide) (fun _ => ?_) (fun c_ => absurd c_ (by decide))
  have hP9 := pq_P.pick (wc := [((fa0 16), .inr (5, [.ref (fa0 11), .ref (fa0 2), .ref (fa0 1), .int 0, .int (-1), .int 0, .int 0, .int 1, .int 0, .long 0, .int 0]))]) hP [0] rfl
  have hD9 := hD.sub (ws' := [((fa0 16), .inr (5, [.ref (fa0 11), .ref (fa0 2), .ref (fa0 1), .int 0, .int (-1), .int 0, .int 0, .int 1, .int 0, .long 0, .int 0]))]) [0] (by decide) rfl
  refine W.widen (k := 0) (n := 0) (by decide +kernel) (by decide +kernel) ?_
  exact W.vret hx hb hr (fun t ht hW => ⟨⟨sq_u [] [], rfl, trivial, pq_B.of ht hP9 hD9⟩, hS.F ht⟩) hS.2.2 dX5_fail_25
def wq_X1_emit_r1 : List Cond := [Cond.fieldLink RX1 44 "CodePress$Code" "used" "I", Cond.fieldLink RX1 40 "CodePress$Code" "limit" "I", Cond.fieldLink RX1 11 "CodePress$Code" "op" "[I", Cond.fieldLink RX1 15 "CodePress$Code" "a" "[I", Cond.fieldLink RX1 18 "CodePress$Code" "b" "[I", Cond.fieldLink RX1 21 "CodePress$Code" "id" "[I", Cond.fieldLink RX1 24 "CodePress$Code" "at" "[I", Cond.fieldLink RX1 27 "CodePress$Code" "begins" "[I", Cond.fieldLink RX1 30 "CodePress$Code" "name" "[J"]
def wq_X1_emit : List Cond := Cond.code yX1_emit cX1_emit 4 (some .int) :: (wq_X1_emit_r1 ++ wsX10)
theorem iq_X1_emit_X1 : ∀ w ∈ wsX10, w ∈ wq_X1_emit := fun _ h => List.mem_cons_of_mem _ (List.mem_append_right _ h)
set_option maxHeartbeats 4000000 in
set_option maxRecDepth 100000 in
theorem cq_X1_emit (l : Launch) (dC : Nat → ClassId) (dI : Nat → Nat → Nat) (cB cI cJ cZ : ClassId) (fa0 : Nat → Nat) (sz : Nat) : Met l yX1_emit wq_X1_emit ({ frames := 0, cells := 0, slots := 0, locals := 0 }) (va_Pc [.ref (fa0 2), .int 13, .int 0] (pq_W (dC, dI) vwCl (tyQ cB cI cJ cZ) [((fa0 2), .inr (1, [.ref (fa0 3), .ref (fa0 4), .ref (fa0 5), .ref (fa0 6), .ref (fa0 7), .ref (fa0 8), .ref (fa0 9), .ref (fa0 31), .ref (fa0 10), .int 1700, .int 3400, .int 0])), ((fa0 3), .inl (cI, 4610, .inl (fun _ => 0))), ((fa0 4), .inl (cI, 4610, .inl (fun _ => 0))), ((fa0 5), .inl (cI, 4610, .inl (fun _ => 0))), ((fa0 6), .inl (cI, 4610, .inl (fun _ => 0))), ((fa0 7), .inl (cI, 4610, .inl (fun _ => 0))), ((fa0 8), .inl (cI, 4610, .inl (fun _ => 0))), ((fa0 9), .inl (cJ, 4610, .inr (.inl (fun _ => 0))))] sz)) (va_Qi (fun (r : Int32) (_ : SQ) => r = 1700) (fun u => pq_B (dC, dI) vwCl [((fa0 2), .inr (1, [.ref (fa0 3), .ref (fa0 4), .ref (fa0 5), .ref (fa0 6), .ref (fa0 7), .ref (fa0 8), .ref (fa0 9), .ref (fa0 31), .ref (fa0 10), .int 1701, .int 3400, .int 0])), ((fa0 3), .inl (cI, 4610, .inl (upd (fun _ => 0) 1700 13))), ((fa0 4), .inl (cI, 4610, .inl (upd (fun _ => 0) 1700 0))), ((fa0 5), .inl (cI, 4610, .inl (upd (fun _ => 0) 1700 0))), ((fa0 6), .inl (cI, 4610, .inl (upd (fun _ => 0) 1700 1700))), ((fa0 7), .inl (cI, 4610, .inl (upd (fun _ => 0) 1700 0))), ((fa0 8), .inl (cI, 4610, .inl (upd (fun _ => 0) 1700 0))), ((fa0 9), .inl (cJ, 4610, .inr (.inl (vp_updL (fun _ => 0) 1700 0))))] (va_A [((fa0 2), .inr (1, [.ref (fa0 3), .ref (fa0 4), .ref (fa0 5), .ref (fa0 6), .ref (fa0 7), .ref (fa0 8), .ref (fa0 9), .ref (fa0 31), .ref (fa0 10), .int 1700, .int 3400, .int 0])), ((fa0 3), .inl (cI, 4610, .inl (fun _ => 0))), ((fa0 4), .inl (cI, 4610, .inl (fun _ => 0))), ((fa0 5), .inl (cI, 4610, .inl (fun _ => 0))), ((fa0 6), .inl (cI, 4610, .inl (fun _ => 0))), ((fa0 7), .inl (cI, 4610, .inl (fun _ => 0))), ((fa0 8), .inl (cI, 4610, .inl (fun _ => 0))), ((fa0 9), .inl (cJ, 4610, .inr (.inl (fun _ => 0))))] sz)) (va_A [((fa0 2), .inr (1, [.ref (fa0 3), .ref (fa0 4), .ref (fa0 5), .ref (fa0 6), .ref (fa0 7), .ref (fa0 8), .ref (fa0 9), .ref (fa0 31), .ref (fa0 10), .int 1700, .int 3400, .int 0])), ((fa0 3), .inl (cI, 4610, .inl (fun _ => 0))), ((fa0 4), .inl (cI, 4610, .inl (fun _ => 0))), ((fa0 5), .inl (cI, 4610, .inl (fun _ => 0))), ((fa0 6), .inl (cI, 4610, .inl (fun _ => 0))), ((fa0 7), .inl (cI, 4610, .inl (fun _ => 0))), ((fa0 8), .inl (cI, 4610, .inl (fun _ => 0))), ((fa0 9), .inl (cJ, 4610, .inr (.inl (fun _ => 0))))] sz)) 0 0 (va_A [((fa0 2), .inr (1, [.ref (fa0 3), .ref (fa0 4), .ref (fa0 5), .ref (fa0 6), .ref (fa0 7), .ref (fa0 8), .ref (fa0 9), .ref (fa0 31), .ref (fa0 10), .int 1700, .int 3400, .int 0])), ((fa0 3), .inl (cI, 4610, .inl (fun _ => 0))), ((fa0 4), .inl (cI, 4610, .inl (fun _ => 0))), ((fa0 5), .inl (cI, 4610, .inl (fun _ => 0))), ((fa0 6), .inl (cI, 4610, .inl (fun _ => 0))), ((fa0 7), .inl (cI, 4610, .inl (fun _ => 0))), ((fa0 8), .inl (cI, 4610, .inl (fun _ => 0))), ((fa0 9), .inl (cJ, 4610, .inr (.inl (fun _ => 0))))] sz) := by
  refine Met.ofW (cc := cX1_emit) (maxL := 4) (ret := (some .int)) (by decide) rfl ?_
  intro p e s m args below meth c s₁ B hml hv
  obtain ⟨rfl, hsz, hP, hK, hD0⟩ := hv
  have hx := B.exec
  have hb := B.bytes
  have hr := B.returns
  have hts := atoms_spec (ws := wq_X1_emit) B.pre
  have hown : s.vm.findClass RX1 = some m.cls := findClass_of_methodNamed B.named
  have hlocks := B.notSynchronized
  subst hsz
  have hD := hD0.self (sz := s.heap.size)
  generalize hAe : va_A [((fa0 2), .inr (1, [.ref (fa0 3), .ref (fa0 4), .ref (fa0 5), .ref (fa0 6), .ref (fa0 7), .ref (fa0 8), .ref (fa0 9), .ref (fa0 31), .ref (fa0 10), .int 1700, .int 3400, .int 0])), ((fa0 3), .inl (cI, 4610, .inl (fun _ => 0))), ((fa0 4), .inl (cI, 4610, .inl (fun _ => 0))), ((fa0 5), .inl (cI, 4610, .inl (fun _ => 0))), ((fa0 6), .inl (cI, 4610, .inl (fun _ => 0))), ((fa0 7), .inl (cI, 4610, .inl (fun _ => 0))), ((fa0 8), .inl (cI, 4610, .inl (fun _ => 0))), ((fa0 9), .inl (cJ, 4610, .inr (.inl (fun _ => 0))))] s.heap.size = A at hD ⊢
  have hA : ∀ q : Nat, s.heap.size ≤ q → A q := fun q h => by rw [← hAe]; exact Or.inr h
  have hS : va_S A s.heap s.heap [] := va_S.rf
  have hP : va_P (dC, dI) vwCl [((fa0 2), .inr (1, [.ref (fa0 3), .ref (fa0 4), .ref (fa0 5), .ref (fa0 6), .ref (fa0 7), .ref (fa0 8), .ref (fa0 9), .ref (fa0 31), .ref (fa0 10), .int 1700, .int 3400, .int 0])), ((fa0 3), .inl (cI, 4610, .inl (fun _ => 0))), ((fa0 4), .inl (cI, 4610, .inl (fun _ => 0))), ((fa0 5), .inl (cI, 4610, .inl (fun _ => 0))), ((fa0 6), .inl (cI, 4610, .inl (fun _ => 0))), ((fa0 7), .inl (cI, 4610, .inl (fun _ => 0))), ((fa0 8), .inl (cI, 4610, .inl (fun _ => 0))), ((fa0 9), .inl (cJ, 4610, .inr (.inl (fun _ => 0))))] s.heap := hP
  obtain ⟨H, hH⟩ : ∃ H, H = s.heap := ⟨_, rfl⟩
  rw [← hH] at hP
  have hS : va_S A s.heap H [] := by rw [hH]; exact hS
  have hl := lv_entry ([.ref (fa0 2), .int 13, .int 0]) (n := 4) (Nat.le_of_ble_eq_true rfl)
  rw [lg_entry_eq]
  generalize (lg_sl ([.ref (fa0 2), .int 13, .int 0]) ++ List.replicate (4 - (lg_sl ([.ref (fa0 2), .int 13, .int 0])).length) Slot.unset).toArray = ls at hl ⊢
  have hl : lv_has ls 4 [(0, .ref (fa0 2)), (1, .int 13), (2, .int 0)] := hl
  refine pq_heap hH ?_
  refine lv_aload_n hx hb dX1_emit_0 rfl (lv_at hl 0 rfl) ?_
  refine va_get (D := (dC, dI)) (ci := 1) (v := .int 1700) (C := RX1) (T := TX1) (N := 12) hx hb hts iq_X1_emit_X1 hown hK hP 0 rfl rfl 9 (by decide) (hts (Cond.fieldLink RX1 44 "CodePress$Code" "used" "I") (List.mem_of_getElem? (i := 1) rfl)) (fun _ h9 => h9) rfl dX1_emit_1 ?_
  refine lv_istore_n (lv' := [(3, .int 1700), (0, .ref (fa0 2)), (1, .int 13), (2, .int 0)]) hx hb dX1_emit_4 rfl hl (by decide) rfl (fun ls hl => ?_)
  refine lv_aload_n hx hb dX1_emit_5 rfl (lv_at hl 1 rfl) ?_
  refine va_get (D := (dC, dI)) (ci := 1) (v := .int 1700) (C := RX1) (T := TX1) (N := 12) hx hb hts iq_X1_emit_X1 hown hK hP 0 rfl rfl 9 (by decide) (hts (Cond.fieldLink RX1 44 "CodePress$Code" "used" "I") (List.mem_of_getElem? (i := 1) rfl)) (fun _ h9 => h9) rfl dX1_emit_6 ?_
  refine lv_aload_n hx hb dX1_emit_9 rfl (lv_at hl 1 rfl) ?_
  refine va_get (D := (dC, dI)) (ci := 1) (v := .int 3400) (C := RX1) (T := TX1) (N := 12) hx hb hts iq_X1_emit_X1 hown hK hP 0 rfl rfl 10 (by decide) (hts (Cond.fieldLink RX1 40 "CodePress$Code" "limit" "I") (List.mem_of_getElem? (i := 2) rfl)) (fun _ h9 => h9) rfl dX1_emit_10 ?_
  refine lv_iconst (v := 1) hx hb dX1_emit_13 (by decide) ?_
  refine lv_isub hx hb dX1_emit_14 ?_
  refine lv_topi (fun x1 ex1 => ?_)
  obtain rfl : x1 = 3399 := ex1.trans (by decide)
  refine lv_icmp_ge (tgt := 28) hx hb dX1_emit_15 (by decide) (fun c_ => absurd c_ (by decide)) (fun _ => ?_)
  refine lv_aload_n hx hb dX1_emit_18 rfl (lv_at hl 1 rfl) ?_
  refine lv_dup hx hb dX1_emit_19 rfl ?_
  refine va_get (D := (dC, dI)) (ci := 1) (v := .int 1700) (C := RX1) (T := TX1) (N := 12) hx hb hts iq_X1_emit_X1 hown hK hP 0 rfl rfl 9 (by decide) (hts (Cond.fieldLink RX1 44 "CodePress$Code" "used" "I") (List.mem_of_getElem? (i := 1) rfl)) (fun _ h9 => h9) rfl dX1_emit_20 ?_
  refine lv_iconst (v := 1) hx hb dX1_emit_23 (by decide) ?_
  refine lv_iadd hx hb dX1_emit_24 ?_
  refine lv_topi (fun x2 ex2 => ?_)
  obtain rfl : x2 = 1701 := ex2.trans (by decide)
  refine va_put (D := (dC, dI)) (ci := 1) (v := .int 1701) (ty := .int) (C := RX1) (T := TX1) (N := 12) hx hb hts iq_X1_emit_X1 tyX1 tyX1_ok nmX1 hown hK hP hD hS 0 rfl rfl 9 (by decide) (hts (Cond.fieldLink RX1 44 "CodePress$Code" "used" "I") (List.mem_of_getElem? (i := 1) rfl)) (fun _ h9 => h9) rfl (by decide +kernel) rfl rfl (Nat.le_of_ble_eq_true rfl) dX1_emit_25 (fun H locs hP hD hS => ?_)
  have hR9 : pq_R (dC, dI) vwCl A [((fa0 2), .inr (1, [.ref (fa0 3), .ref (fa0 4), .ref (fa0 5), .ref (fa0 6), .ref (fa0 7), .ref (fa0 8), .ref (fa0 9), .ref (fa0 31), .ref (fa0 10), .int 1701, .int 3400, .int 0])), ((fa0 3), .inl (cI, 4610, .inl (fun _ => 0))), ((fa0 4), .inl (cI, 4610, .inl (fun _ => 0))), ((fa0 5), .inl (cI, 4610, .inl (fun _ => 0))), ((fa0 6), .inl (cI, 4610, .inl (fun _ => 0))), ((fa0 7), .inl (cI, 4610, .inl (fun _ => 0))), ((fa0 8), .inl (cI, 4610, .inl (fun _ => 0))), ((fa0 9), .inl (cJ, 4610, .inr (.inl (fun _ => 0))))] H := ⟨hP, hD⟩
  have hP := hR9.1
  have hD := hR9.2
  refine lv_aload_n hx hb dX1_emit_28 rfl (lv_at hl 1 rfl) ?_
  refine va_get (D := (dC, dI)) (ci := 1) (v := .ref (fa0 3)) (C := RX1) (T := TX1) (N := 12) hx hb hts iq_X1_emit_X1 hown hK hP 0 rfl rfl 0 (by decide) (hts (Cond.fieldLink RX1 11 "CodePress$Code" "op" "[I") (List.mem_of_getElem? (i := 3) rfl)) (fun _ h9 => h9) rfl dX1_emit_29 ?_
  refine lv_iload_n hx hb dX1_emit_32 rfl (lv_at hl 0 rfl) ?_
  refine lv_iload_n hx hb dX1_emit_33 rfl (lv_at hl 2 rfl) ?_
  refine va_iast hx hb hK hP hD hS 1 1 rfl rfl (pq_in (by decide)) dX1_emit_34 (fun H locs hP hD hS => ?_)
  have hR9 : pq_R (dC, dI) vwCl A [((fa0 2), .inr (1, [.ref (fa0 3), .ref (fa0 4), .ref (fa0 5), .ref (fa0 6), .ref (fa0 7), .ref (fa0 8), .ref (fa0 9), .ref (fa0 31), .ref (fa0 10), .int 1701, .int 3400, .int 0])), ((fa0 3), .inl (cI, 4610, .inl (upd (fun _ => 0) 1700 13))), ((fa0 4), .inl (cI, 4610, .inl (fun _ => 0))), ((fa0 5), .inl (cI, 4610, .inl (fun _ => 0))), ((fa0 6), .inl (cI, 4610, .inl (fun _ => 0))), ((fa0 7), .inl (cI, 4610, .inl (fun _ => 0))), ((fa0 8), .inl (cI, 4610, .inl (fun _ => 0))), ((fa0 9), .inl (cJ, 4610, .inr (.inl (fun _ => 0))))] H := ⟨hP, hD⟩
  have hP := hR9.1
  have hD := hR9.2
  refine lv_aload_n hx hb dX1_emit_35 rfl (lv_at hl 1 rfl) ?_
  refine va_get (D := (dC, dI)) (ci := 1) (v := .ref (fa0 4)) (C := RX1) (T := TX1) (N := 12) hx hb hts iq_X1_emit_X1 hown hK hP 0 rfl rfl 1 (by decide) (hts (Cond.fieldLink RX1 15 "CodePress$Code" "a" "[I") (List.mem_of_getElem? (i := 4) rfl)) (fun _ h9 => h9) rfl dX1_emit_36 ?_
  refine lv_iload_n hx hb dX1_emit_39 rfl (lv_at hl 0 rfl) ?_
  refine lv_iconst (v := 0) hx hb dX1_emit_40 (by decide) ?_
  refine va_iast hx hb hK hP hD hS 2 1 rfl rfl (pq_in (by decide)) dX1_emit_41 (fun H locs hP hD hS => ?_)
  have hR9 : pq_R (dC, dI) vwCl A [((fa0 2), .inr (1, [.ref (fa0 3), .ref (fa0 4), .ref (fa0 5), .ref (fa0 6), .ref (fa0 7), .ref (fa0 8), .ref (fa0 9), .ref (fa0 31), .ref (fa0 10), .int 1701, .int 3400, .int 0])), ((fa0 3), .inl (cI, 4610, .inl (upd (fun _ => 0) 1700 13))), ((fa0 4), .inl (cI, 4610, .inl (upd (fun _ => 0) 1700 0))), ((fa0 5), .inl (cI, 4610, .inl (fun _ => 0))), ((fa0 6), .inl (cI, 4610, .inl (fun _ => 0))), ((fa0 7), .inl (cI, 4610, .inl (fun _ => 0))), ((fa0 8), .inl (cI, 4610, .inl (fun _ => 0))), ((fa0 9), .inl (cJ, 4610, .inr (.inl (fun _ => 0))))] H := ⟨hP, hD⟩
  have hP := hR9.1
  have hD := hR9.2
  refine lv_aload_n hx hb dX1_emit_42 rfl (lv_at hl 1 rfl) ?_
  refine va_get (D := (dC, dI)) (ci := 1) (v := .ref (fa0 5)) (C := RX1) (T := TX1) (N := 12) hx hb hts iq_X1_emit_X1 hown hK hP 0 rfl rfl 2 (by decide) (hts (Cond.fieldLink RX1 18 "CodePress$Code" "b" "[I") (List.mem_of_getElem? (i := 5) rfl)) (fun _ h9 => h9) rfl dX1_emit_43 ?_
  refine lv_iload_n hx hb dX1_emit_46 rfl (lv_at hl 0 rfl) ?_
  refine lv_iconst (v := 0) hx hb dX1_emit_47 (by decide) ?_
  refine va_iast hx hb hK hP hD hS 3 1 rfl rfl (pq_in (by decide)) dX1_emit_48 (fun H locs hP hD hS => ?_)
  have hR9 : pq_R (dC, dI) vwCl A [((fa0 2), .inr (1, [.ref (fa0 3), .ref (fa0 4), .ref (fa0 5), .ref (fa0 6), .ref (fa0 7), .ref (fa0 8), .ref (fa0 9), .ref (fa0 31), .ref (fa0 10), .int 1701, .int 3400, .int 0])), ((fa0 3), .inl (cI, 4610, .inl (upd (fun _ => 0) 1700 13))), ((fa0 4), .inl (cI, 4610, .inl (upd (fun _ => 0) 1700 0))), ((fa0 5), .inl (cI, 4610, .inl (upd (fun _ => 0) 1700 0))), ((fa0 6), .inl (cI, 4610, .inl (fun _ => 0))), ((fa0 7), .inl (cI, 4610, .inl (fun _ => 0))), ((fa0 8), .inl (cI, 4610, .inl (fun _ => 0))), ((fa0 9), .inl (cJ, 4610, .inr (.inl (fun _ => 0))))] H := ⟨hP, hD⟩
  have hP := hR9.1
  have hD := hR9.2
  refine lv_aload_n hx hb dX1_emit_49 rfl (lv_at hl 1 rfl) ?_
  refine va_get (D := (dC, dI)) (ci := 1) (v := .ref (fa0 6)) (C := RX1) (T := TX1) (N := 12) hx hb hts iq_X1_emit_X1 hown hK hP 0 rfl rfl 3 (by decide) (hts (Cond.fieldLink RX1 21 "CodePress$Code" "id" "[I") (List.mem_of_getElem? (i := 6) rfl)) (fun _ h9 => h9) rfl dX1_emit_50 ?_
  refine lv_iload_n hx hb dX1_emit_53 rfl (lv_at hl 0 rfl) ?_
  refine lv_iload_n hx hb dX1_emit_54 rfl (lv_at hl 0 rfl) ?_
  refine va_iast hx hb hK hP hD hS 4 1 rfl rfl (pq_in (by decide)) dX1_emit_55 (fun H locs hP hD hS => ?_)
  have hR9 : pq_R (dC, dI) vwCl A [((fa0 2), .inr (1, [.ref (fa0 3), .ref (fa0 4), .ref (fa0 5), .ref (fa0 6), .ref (fa0 7), .ref (fa0 8), .ref (fa0 9), .ref (fa0 31), .ref (fa0 10), .int 1701, .int 3400, .int 0])), ((fa0 3), .inl (cI, 4610, .inl (upd (fun _ => 0) 1700 13))), ((fa0 4), .inl (cI, 4610, .inl (upd (fun _ => 0) 1700 0))), ((fa0 5), .inl (cI, 4610, .inl (upd (fun _ => 0) 1700 0))), ((fa0 6), .inl (cI, 4610, .inl (upd (fun _ => 0) 1700 1700))), ((fa0 7), .inl (cI, 4610, .inl (fun _ => 0))), ((fa0 8), .inl (cI, 4610, .inl (fun _ => 0))), ((fa0 9), .inl (cJ, 4610, .inr (.inl (fun _ => 0))))] H := ⟨hP, hD⟩
  have hP := hR9.1
  have hD := hR9.2
  refine lv_aload_n hx hb dX1_emit_56 rfl (lv_at hl 1 rfl) ?_
  refine va_get (D := (dC, dI)) (ci := 1) (v := .ref (fa0 7)) (C := RX1) (T := TX1) (N := 12) hx hb hts iq_X1_emit_X1 hown hK hP 0 rfl rfl 4 (by decide) (hts (Cond.fieldLink RX1 24 "CodePress$Code" "at" "[I") (List.mem_of_getElem? (i := 7) rfl)) (fun _ h9 => h9) rfl dX1_emit_57 ?_
  refine lv_iload_n hx hb dX1_emit_60 rfl (lv_at hl 0 rfl) ?_
  refine lv_iload_n hx hb dX1_emit_61 rfl (lv_at hl 3 rfl) ?_
  refine va_iast hx hb hK hP hD hS 5 1 rfl rfl (pq_in (by decide)) dX1_emit_62 (fun H locs hP hD hS => ?_)
  have hR9 : pq_R (dC, dI) vwCl A [((fa0 2), .inr (1, [.ref (fa0 3), .ref (fa0 4), .ref (fa0 5), .ref (fa0 6), .ref (fa0 7), .ref (fa0 8), .ref (fa0 9), .ref (fa0 31), .ref (fa0 10), .int 1701, .int 3400, .int 0])), ((fa0 3), .inl (cI, 4610, .inl (upd (fun _ => 0) 1700 13))), ((fa0 4), .inl (cI, 4610, .inl (upd (fun _ => 0) 1700 0))), ((fa0 5), .inl (cI, 4610, .inl (upd (fun _ => 0) 1700 0))), ((fa0 6), .inl (cI, 4610, .inl (upd (fun _ => 0) 1700 1700))), ((fa0 7), .inl (cI, 4610, .inl (upd (fun _ => 0) 1700 0))), ((fa0 8), .inl (cI, 4610, .inl (fun _ => 0))), ((fa0 9), .inl (cJ, 4610, .inr (.inl (fun _ => 0))))] H := ⟨hP, hD⟩
  have hP := hR9.1
  have hD := hR9.2
  refine lv_aload_n hx hb dX1_emit_63 rfl (lv_at hl 1 rfl) ?_
  refine va_get (D := (dC, dI)) (ci := 1) (v := .ref (fa0 8)) (C := RX1) (T := TX1) (N := 12) hx hb hts iq_X1_emit_X1 hown hK hP 0 rfl rfl 5 (by decide) (hts (Cond.fieldLink RX1 27 "CodePress$Code" "begins" "[I") (List.mem_of_getElem? (i := 8) rfl)) (fun _ h9 => h9) rfl dX1_emit_64 ?_
  refine lv_iload_n hx hb dX1_emit_67 rfl (lv_at hl 0 rfl) ?_
  refine lv_iconst (v := 0) hx hb dX1_emit_68 (by decide) ?_
  refine va_iast hx hb hK hP hD hS 6 1 rfl rfl (pq_in (by decide)) dX1_emit_69 (fun H locs hP hD hS => ?_)
  have hR9 : pq_R (dC, dI) vwCl A [((fa0 2), .inr (1, [.ref (fa0 3), .ref (fa0 4), .ref (fa0 5), .ref (fa0 6), .ref (fa0 7), .ref (fa0 8), .ref (fa0 9), .ref (fa0 31), .ref (fa0 10), .int 1701, .int 3400, .int 0])), ((fa0 3), .inl (cI, 4610, .inl (upd (fun _ => 0) 1700 13))), ((fa0 4), .inl (cI, 4610, .inl (upd (fun _ => 0) 1700 0))), ((fa0 5), .inl (cI, 4610, .inl (upd (fun _ => 0) 1700 0))), ((fa0 6), .inl (cI, 4610, .inl (upd (fun _ => 0) 1700 1700))), ((fa0 7), .inl (cI, 4610, .inl (upd (fun _ => 0) 1700 0))), ((fa0 8), .inl (cI, 4610, .inl (upd (fun _ => 0) 1700 0))), ((fa0 9), .inl (cJ, 4610, .inr (.inl (fun _ => 0))))] H := ⟨hP, hD⟩
  have hP := hR9.1
  have hD := hR9.2
  refine lv_aload_n hx hb dX1_emit_70 rfl (lv_at hl 1 rfl) ?_
  refine va_get (D := (dC, dI)) (ci := 1) (v := .ref (fa0 9)) (C := RX1) (T := TX1) (N := 12) hx hb hts iq_X1_emit_X1 hown hK hP 0 rfl rfl 6 (by decide) (hts (Cond.fieldLink RX1 30 "CodePress$Code" "name" "[J") (List.mem_of_getElem? (i := 9) rfl)) (fun _ h9 => h9) rfl dX1_emit_71 ?_
  refine lv_iload_n hx hb dX1_emit_74 rfl (lv_at hl 0 rfl) ?_
  refine lv_lconst (v := 0) hx hb dX1_emit_75 (by decide) ?_
  refine va_last hx hb hK hP hD hS 7 2 rfl rfl (pq_in (by decide)) dX1_emit_76 (fun H locs hP hD hS => ?_)
  have hR9 : pq_R (dC, dI) vwCl A [((fa0 2), .inr (1, [.ref (fa0 3), .ref (fa0 4), .ref (fa0 5), .ref (fa0 6), .ref (fa0 7), .ref (fa0 8), .ref (fa0 9), .ref (fa0 31), .ref (fa0 10), .int 1701, .int 3400, .int 0])), ((fa0 3), .inl (cI, 4610, .inl (upd (fun _ => 0) 1700 13))), ((fa0 4), .inl (cI, 4610, .inl (upd (fun _ => 0) 1700 0))), ((fa0 5), .inl (cI, 4610, .inl (upd (fun _ => 0) 1700 0))), ((fa0 6), .inl (cI, 4610, .inl (upd (fun _ => 0) 1700 1700))), ((fa0 7), .inl (cI, 4610, .inl (upd (fun _ => 0) 1700 0))), ((fa0 8), .inl (cI, 4610, .inl (upd (fun _ => 0) 1700 0))), ((fa0 9), .inl (cJ, 4610, .inr (.inl (vp_updL (fun _ => 0) 1700 0))))] H := ⟨hP, hD⟩
  have hP := hR9.1
  have hD := hR9.2
  refine lv_iload_n hx hb dX1_emit_77 rfl (lv_at hl 0 rfl) ?_
  have hP9 := pq_P.pick (wc := [((fa0 2), .inr (1, [.ref (fa0 3), .ref (fa0 4), .ref (fa0 5), .ref (fa0 6), .ref (fa0 7), .ref (fa0 8), .ref (fa0 9), .ref (fa0 31), .ref (fa0 10), .int 1701, .int 3400, .int 0])), ((fa0 3), .inl (cI, 4610, .inl (upd (fun _ => 0) 1700 13))), ((fa0 4), .inl (cI, 4610, .inl (upd (fun _ => 0) 1700 0))), ((fa0 5), .inl (cI, 4610, .inl (upd (fun _ => 0) 1700 0))), ((fa0 6), .inl (cI, 4610, .inl (upd (fun _ => 0) 1700 1700))), ((fa0 7), .inl (cI, 4610, .inl (upd (fun _ => 0) 1700 0))), ((fa0 8), .inl (cI, 4610, .inl (upd (fun _ => 0) 1700 0))), ((fa0 9), .inl (cJ, 4610, .inr (.inl (vp_updL (fun _ => 0) 1700 0))))]) hP [0, 1, 2, 3, 4, 5, 6, 7] rfl
  have hD9 := hD.sub (ws' := [((fa0 2), .inr (1, [.ref (fa0 3), .ref (fa0 4), .ref (fa0 5), .ref (fa0 6), .ref (fa0 7), .ref (fa0 8), .ref (fa0 9), .ref (fa0 31), .ref (fa0 10), .int 1701, .int 3400, .int 0])), ((fa0 3), .inl (cI, 4610, .inl (upd (fun _ => 0) 1700 13))), ((fa0 4), .inl (cI, 4610, .inl (upd (fun _ => 0) 1700 0))), ((fa0 5), .inl (cI, 4610, .inl (upd (fun _ => 0) 1700 0))), ((fa0 6), .inl (cI, 4610, .inl (upd (fun _ => 0) 1700 1700))), ((fa0 7), .inl (cI, 4610, .inl (upd (fun _ => 0) 1700 0))), ((fa0 8), .inl (cI, 4610, .inl (upd (fun _ => 0) 1700 0))), ((fa0 9), .inl (cJ, 4610, .inr (.inl (vp_updL (fun _ => 0) 1700 0))))]) [0, 1, 2, 3, 4, 5, 6, 7] (by decide) rfl
  refine W.widen (k := 0) (n := 0) (by decide +kernel) (by decide +kernel) ?_
  exact W.iret (v := 1700) hx hb hr (fun t ht hW => ⟨⟨1700, sq_u [] [], rfl, rfl, pq_B.of ht hP9 hD9⟩, hS.F ht⟩) hS.2.2 dX1_emit_78
def wq_X5_readQuestion_r1 : List Cond := [Cond.code yX5_start cX5_start 2 none, Cond.fieldLink RX5 49 "CodePress$Parser" "tokens" "I", Cond.fieldLink RX5 52 "CodePress$Parser" "open" "I", Cond.fieldLink RX5 55 "CodePress$Parser" "fault" "I", Cond.fieldLink RX5 58 "CodePress$Parser" "place" "I", Cond.fieldLink RX5 9 "CodePress$Parser" "lexer" "LCodePress$Lexer;", Cond.code yX2_read cX2_read 3 none, Cond.fieldLink RX2 28 "CodePress$Lexer" "text" "[B", Cond.methodLink RX2 44 Lib.Math.min.name, Cond.static Lib.Math.min.name, Cond.initialized "java/lang/Math", Cond.code Lib.Math.min.name Lib.Math.min.code 2 (some .int), Cond.fieldLink RX2 50 "CodePress$Lexer" "size" "I", Cond.fieldLink RX2 54 "CodePress$Lexer" "pos" "I", Cond.fieldLink RX2 57 "CodePress$Lexer" "kind" "I", Cond.code yX2_next cX2_next 1 none, Cond.fieldLink RX2 63 "CodePress$Lexer" "at" "I", Cond.methodLink RX2 60 yX2_next, Cond.instanceMethod yX2_next, Cond.selects RX2 yX2_next yX2_next, Cond.initialized RX2, Cond.fieldLink RX2 15 "CodePress$Lexer" "kinds" "[I", Cond.fieldLink RX2 19 "CodePress$Lexer" "places" "[I", Cond.fieldLink RX2 22 "CodePress$Lexer" "numbers" "[I"]
def wq_X5_readQuestion_r2 : List Cond := [Cond.fieldLink RX2 66 "CodePress$Lexer" "number" "I", Cond.fieldLink RX2 25 "CodePress$Lexer" "names" "[J", Cond.fieldLink RX2 69 "CodePress$Lexer" "name" "J", Cond.methodLink RX5 61 yX2_read, Cond.instanceMethod yX2_read, Cond.selects RX2 yX2_read yX2_read, Cond.fieldLink RX5 64 "CodePress$Lexer" "kinds" "[I", Cond.fieldLink RX5 27 "CodePress$Parser" "kind" "I", Cond.fieldLink RX5 68 "CodePress$Lexer" "places" "[I", Cond.fieldLink RX5 71 "CodePress$Parser" "at" "I", Cond.methodLink RX5 23 yX5_start, Cond.instanceMethod yX5_start, Cond.selects RX5 yX5_start yX5_start, Cond.initialized RX5, Cond.code yX5_readE cX5_readE 1 none, Cond.code yX5_readC cX5_readC 14 none, Cond.fieldLink RX5 15 "CodePress$Parser" "code" "LCodePress$Code;", Cond.fieldLink RX5 154 "CodePress$Code" "used" "I", Cond.code yX5_readA cX5_readA 4 none, Cond.code yX5_readU cX5_readU 1 none, Cond.code yX5_fail cX5_fail 2 none, Cond.methodLink RX5 37 yX5_fail, Cond.instanceMethod yX5_fail, Cond.selects RX5 yX5_fail yX5_fail]
def wq_X5_readQuestion_r3 : List Cond := [Cond.methodLink RX5 171 yX5_readU, Cond.instanceMethod yX5_readU, Cond.selects RX5 yX5_readU yX5_readU, Cond.code yX5_beginsU cX5_beginsU 1 (some .boolean), Cond.methodLink RX5 174 yX5_beginsU, Cond.instanceMethod yX5_beginsU, Cond.selects RX5 yX5_beginsU yX5_beginsU, Cond.methodLink RX5 164 yX5_readA, Cond.instanceMethod yX5_readA, Cond.selects RX5 yX5_readA yX5_readA, Cond.code yX5_joinSign cX5_joinSign 5 none, Cond.methodLink RX5 167 yX5_joinSign, Cond.instanceMethod yX5_joinSign, Cond.selects RX5 yX5_joinSign yX5_joinSign, Cond.methodLink RX5 151 yX5_readC, Cond.instanceMethod yX5_readC, Cond.selects RX5 yX5_readC yX5_readC, Cond.methodLink RX5 40 yX5_readE, Cond.instanceMethod yX5_readE, Cond.selects RX5 yX5_readE yX5_readE, Cond.code yX1_emit cX1_emit 4 (some .int), Cond.fieldLink RX1 44 "CodePress$Code" "used" "I", Cond.fieldLink RX1 40 "CodePress$Code" "limit" "I", Cond.fieldLink RX1 11 "CodePress$Code" "op" "[I"]
def wq_X5_readQuestion_r4 : List Cond := [Cond.fieldLink RX1 15 "CodePress$Code" "a" "[I", Cond.fieldLink RX1 18 "CodePress$Code" "b" "[I", Cond.fieldLink RX1 21 "CodePress$Code" "id" "[I", Cond.fieldLink RX1 24 "CodePress$Code" "at" "[I", Cond.fieldLink RX1 27 "CodePress$Code" "begins" "[I", Cond.fieldLink RX1 30 "CodePress$Code" "name" "[J", Cond.methodLink RX5 45 yX1_emit, Cond.instanceMethod yX1_emit, Cond.selects RX1 yX1_emit yX1_emit, Cond.initialized RX1]
def wq_X5_readQuestion : List Cond := Cond.code yX5_readQuestion cX5_readQuestion 2 none :: ((wq_X5_readQuestion_r1 ++ (wq_X5_readQuestion_r2 ++ (wq_X5_readQuestion_r3 ++ wq_X5_readQuestion_r4))) ++ wsX50 ++ wsX20 ++ wsX10)
theorem iq_X5_readQuestion_X5 : ∀ w ∈ wsX50, w ∈ wq_X5_readQuestion := fun _ h => List.mem_cons_of_mem _ (List.mem_append_left _ (List.mem_append_left _ (List.mem_append_right _ h)))
theorem iq_X5_readQuestion_X2 : ∀ w ∈ wsX20, w ∈ wq_X5_readQuestion := fun _ h => List.mem_cons_of_mem _ (List.mem_append_left _ (List.mem_append_right _ h))
theorem iq_X5_readQuestion_X1 : ∀ w ∈ wsX10, w ∈ wq_X5_readQuestion := fun _ h => List.mem_cons_of_mem _ (List.mem_append_right _ h)
set_option maxRecDepth 20000 in
theorem gq_X5_readQuestion_X5_start_23_0 : GoodIn wq_X5_readQuestion (Cond.code yX5_start cX5_start 2 none :: (wq_X5_start_r1 ++ wq_X5_start_r2)) := goodIn_r _ [1, 2, 3, 4, 5, 6, 7, 8, 9, 10, 11, 12, 13, 14, 15, 16, 17, 18, 19, 20, 21, 22, 23, 24, 25, 26, 27, 28, 29, 30, 31, 32, 33, 34] (by decide +kernel) (by decide +kernel)
set_option maxRecDepth 20000 in
theorem gq_X5_readQuestion_X5_start_23 : GoodIn wq_X5_readQuestion (wsV RX5 23 RX5 yX5_start wq_X5_start) := goodIn_app (goodIn_r _ [35, 36, 37, 38] (by decide +kernel) (by decide +kernel)) (goodIn_ca (goodIn_ca gq_X5_readQuestion_X5_start_23_0 (goodIn_sub iq_X5_readQuestion_X5 guX5)) (goodIn_sub iq_X5_readQuestion_X2 guX2))
set_option maxRecDepth 20000 in
theorem gq_X5_readQuestion_X5_readE_40_0 : GoodIn wq_X5_readQuestion (Cond.code yX5_readE cX5_readE 1 none :: (wq_X5_readE_r1 ++ wq_X5_readE_r2)) := goodIn_r _ [39, 32, 40, 41, 42, 43, 44, 45, 4, 34, 5, 46, 47, 48, 38, 49, 50, 51, 52, 53, 54, 55, 56, 57, 58, 59, 60, 61, 62, 63, 64, 65] (by decide +kernel) (by decide +kernel)
set_option maxRecDepth 20000 in
theorem gq_X5_readQuestion_X5_readE_40 : GoodIn wq_X5_readQuestion (wsV RX5 40 RX5 yX5_readE wq_X5_readE) := goodIn_app (goodIn_r _ [66, 67, 68, 38] (by decide +kernel) (by decide +kernel)) (goodIn_ca (goodIn_ca gq_X5_readQuestion_X5_readE_40_0 (goodIn_sub iq_X5_readQuestion_X5 guX5)) (goodIn_sub iq_X5_readQuestion_X1 guX1))
set_option maxRecDepth 20000 in
theorem gq_X5_readQuestion_X5_fail_1_37_0 : GoodIn wq_X5_readQuestion (Cond.code yX5_fail cX5_fail 2 none :: wq_X5_fail_1_r1) := goodIn_r _ [45, 4] (by decide +kernel) (by decide +kernel)
set_option maxRecDepth 20000 in
theorem gq_X5_readQuestion_X5_fail_1_37 : GoodIn wq_X5_readQuestion (wsV RX5 37 RX5 yX5_fail wq_X5_fail_1) := goodIn_app (goodIn_r _ [46, 47, 48, 38] (by decide +kernel) (by decide +kernel)) (goodIn_ca gq_X5_readQuestion_X5_fail_1_37_0 (goodIn_sub iq_X5_readQuestion_X5 guX5))
set_option maxRecDepth 20000 in
theorem gq_X5_readQuestion_X1_emit_45_0 : GoodIn wq_X5_readQuestion (Cond.code yX1_emit cX1_emit 4 (some .int) :: wq_X1_emit_r1) := goodIn_r _ [69, 70, 71, 72, 73, 74, 75, 76, 77, 78] (by decide +kernel) (by decide +kernel)
set_option maxRecDepth 20000 in
theorem gq_X5_readQuestion_X1_emit_45 : GoodIn wq_X5_readQuestion (wsV RX5 45 RX1 yX1_emit wq_X1_emit) := goodIn_app (goodIn_r _ [79, 80, 81, 82] (by decide +kernel) (by decide +kernel)) (goodIn_ca gq_X5_readQuestion_X1_emit_45_0 (goodIn_sub iq_X5_readQuestion_X1 guX1))
set_option maxHeartbeats 4000000 in
set_option maxRecDepth 100000 in
theorem cq_X5_readQuestion (l : Launch) (dC : Nat → ClassId) (dI : Nat → Nat → Nat) (cB cI cJ cZ : ClassId) (fa0 : Nat → Nat) (sz : Nat) : Met l yX5_readQuestion wq_X5_readQuestion ({ frames := 5, cells := 0, slots := 0, locals := 117 }) (va_Pc [.ref (fa0 16), .int 0] (pq_W (dC, dI) vwCl (tyQ cB cI cJ cZ) [((fa0 16), .inr (5, [.ref (fa0 11), .ref (fa0 2), .ref (fa0 1), .int 0, .int 0, .int 0, .int 0, .int 0, .int 0, .long 0, .int 0])), ((fa0 11), .inr (2, [.ref (fa0 0), .ref (fa0 32), .ref (fa0 12), .ref (fa0 13), .ref (fa0 14), .ref (fa0 15), .int 0, .int 0, .int 0, .int 0, .int 0, .long 0])), ((fa0 0), .inl (cB, 3000, .inl (fun _ => 0))), ((fa0 12), .inl (cI, 801, .inl (fun _ => 0))), ((fa0 13), .inl (cI, 801, .inl (fun _ => 0))), ((fa0 14), .inl (cI, 801, .inl (fun _ => 0))), ((fa0 15), .inl (cJ, 801, .inr (.inl (fun _ => 0)))), ((fa0 2), .inr (1, [.ref (fa0 3), .ref (fa0 4), .ref (fa0 5), .ref (fa0 6), .ref (fa0 7), .ref (fa0 8), .ref (fa0 9), .ref (fa0 31), .ref (fa0 10), .int 1700, .int 3400, .int 0])), ((fa0 3), .inl (cI, 4610, .inl (fun _ => 0))), ((fa0 4), .inl (cI, 4610, .inl (fun _ => 0))), ((fa0 5), .inl (cI, 4610, .inl (fun _ => 0))), ((fa0 6), .inl (cI, 4610, .inl (fun _ => 0))), ((fa0 7), .inl (cI, 4610, .inl (fun _ => 0))), ((fa0 8), .inl (cI, 4610, .inl (fun _ => 0))), ((fa0 9), .inl (cJ, 4610, .inr (.inl (fun _ => 0))))] sz)) (va_Qv (fun (_ : SQ) => True) (fun u => pq_B (dC, dI) vwCl [((fa0 0), .inl (cB, 3000, .inl (fun _ => 0))), ((fa0 12), .inl (cI, 801, .inl (upd (fun _ => 0) 0 260))), ((fa0 13), .inl (cI, 801, .inl (upd (fun _ => 0) 0 0))), ((fa0 14), .inl (cI, 801, .inl (upd (fun _ => 0) 0 0))), ((fa0 15), .inl (cJ, 801, .inr (.inl (vp_updL (fun _ => 0) 0 0)))), ((fa0 11), .inr (2, [.ref (fa0 0), .ref (fa0 32), .ref (fa0 12), .ref (fa0 13), .ref (fa0 14), .ref (fa0 15), .int 0, .int 0, .int 260, .int 0, .int 0, .long 0])), ((fa0 16), .inr (5, [.ref (fa0 11), .ref (fa0 2), .ref (fa0 1), .int 0, .int (-1), .int 0, .int 0, .int 1, .int 0, .long 0, .int 0])), ((fa0 2), .inr (1, [.ref (fa0 3), .ref (fa0 4), .ref (fa0 5), .ref (fa0 6), .ref (fa0 7), .ref (fa0 8), .ref (fa0 9), .ref (fa0 31), .ref (fa0 10), .int 1701, .int 3400, .int 0])), ((fa0 3), .inl (cI, 4610, .inl (upd (fun _ => 0) 1700 13))), ((fa0 4), .inl (cI, 4610, .inl (upd (fun _ => 0) 1700 0))), ((fa0 5), .inl (cI, 4610, .inl (upd (fun _ => 0) 1700 0))), ((fa0 6), .inl (cI, 4610, .inl (upd (fun _ => 0) 1700 1700))), ((fa0 7), .inl (cI, 4610, .inl (upd (fun _ => 0) 1700 0))), ((fa0 8), .inl (cI, 4610, .inl (upd (fun _ => 0) 1700 0))), ((fa0 9), .inl (cJ, 4610, .inr (.inl (vp_updL (fun _ => 0) 1700 0))))] (va_A [((fa0 16), .inr (5, [.ref (fa0 11), .ref (fa0 2), .ref (fa0 1), .int 0, .int 0, .int 0, .int 0, .int 0, .int 0, .long 0, .int 0])), ((fa0 11), .inr (2, [.ref (fa0 0), .ref (fa0 32), .ref (fa0 12), .ref (fa0 13), .ref (fa0 14), .ref (fa0 15), .int 0, .int 0, .int 0, .int 0, .int 0, .long 0])), ((fa0 0), .inl (cB, 3000, .inl (fun _ => 0))), ((fa0 12), .inl (cI, 801, .inl (fun _ => 0))), ((fa0 13), .inl (cI, 801, .inl (fun _ => 0))), ((fa0 14), .inl (cI, 801, .inl (fun _ => 0))), ((fa0 15), .inl (cJ, 801, .inr (.inl (fun _ => 0)))), ((fa0 2), .inr (1, [.ref (fa0 3), .ref (fa0 4), .ref (fa0 5), .ref (fa0 6), .ref (fa0 7), .ref (fa0 8), .ref (fa0 9), .ref (fa0 31), .ref (fa0 10), .int 1700, .int 3400, .int 0])), ((fa0 3), .inl (cI, 4610, .inl (fun _ => 0))), ((fa0 4), .inl (cI, 4610, .inl (fun _ => 0))), ((fa0 5), .inl (cI, 4610, .inl (fun _ => 0))), ((fa0 6), .inl (cI, 4610, .inl (fun _ => 0))), ((fa0 7), .inl (cI, 4610, .inl (fun _ => 0))), ((fa0 8), .inl (cI, 4610, .inl (fun _ => 0))), ((fa0 9), .inl (cJ, 4610, .inr (.inl (fun _ => 0))))] sz)) (va_A [((fa0 16), .inr (5, [.ref (fa0 11), .ref (fa0 2), .ref (fa0 1), .int 0, .int 0, .int 0, .int 0, .int 0, .int 0, .long 0, .int 0])), ((fa0 11), .inr (2, [.ref (fa0 0), .ref (fa0 32), .ref (fa0 12), .ref (fa0 13), .ref (fa0 14), .ref (fa0 15), .int 0, .int 0, .int 0, .int 0, .int 0, .long 0])), ((fa0 0), .inl (cB, 3000, .inl (fun _ => 0))), ((fa0 12), .inl (cI, 801, .inl (fun _ => 0))), ((fa0 13), .inl (cI, 801, .inl (fun _ => 0))), ((fa0 14), .inl (cI, 801, .inl (fun _ => 0))), ((fa0 15), .inl (cJ, 801, .inr (.inl (fun _ => 0)))), ((fa0 2), .inr (1, [.ref (fa0 3), .ref (fa0 4), .ref (fa0 5), .ref (fa0 6), .ref (fa0 7), .ref (fa0 8), .ref (fa0 9), .ref (fa0 31), .ref (fa0 10), .int 1700, .int 3400, .int 0])), ((fa0 3), .inl (cI, 4610, .inl (fun _ => 0))), ((fa0 4), .inl (cI, 4610, .inl (fun _ => 0))), ((fa0 5), .inl (cI, 4610, .inl (fun _ => 0))), ((fa0 6), .inl (cI, 4610, .inl (fun _ => 0))), ((fa0 7), .inl (cI, 4610, .inl (fun _ => 0))), ((fa0 8), .inl (cI, 4610, .inl (fun _ => 0))), ((fa0 9), .inl (cJ, 4610, .inr (.inl (fun _ => 0))))] sz)) 0 0 (va_A [((fa0 16), .inr (5, [.ref (fa0 11), .ref (fa0 2), .ref (fa0 1), .int 0, .int 0, .int 0, .int 0, .int 0, .int 0, .long 0, .int 0])), ((fa0 11), .inr (2, [.ref (fa0 0), .ref (fa0 32), .ref (fa0 12), .ref (fa0 13), .ref (fa0 14), .ref (fa0 15), .int 0, .int 0, .int 0, .int 0, .int 0, .long 0])), ((fa0 0), .inl (cB, 3000, .inl (fun _ => 0))), ((fa0 12), .inl (cI, 801, .inl (fun _ => 0))), ((fa0 13), .inl (cI, 801, .inl (fun _ => 0))), ((fa0 14), .inl (cI, 801, .inl (fun _ => 0))), ((fa0 15), .inl (cJ, 801, .inr (.inl (fun _ => 0)))), ((fa0 2), .inr (1, [.ref (fa0 3), .ref (fa0 4), .ref (fa0 5), .ref (fa0 6), .ref (fa0 7), .ref (fa0 8), .ref (fa0 9), .ref (fa0 31), .ref (fa0 10), .int 1700, .int 3400, .int 0])), ((fa0 3), .inl (cI, 4610, .inl (fun _ => 0))), ((fa0 4), .inl (cI, 4610, .inl (fun _ => 0))), ((fa0 5), .inl (cI, 4610, .inl (fun _ => 0))), ((fa0 6), .inl (cI, 4610, .inl (fun _ => 0))), ((fa0 7), .inl (cI, 4610, .inl (fun _ => 0))), ((fa0 8), .inl (cI, 4610, .inl (fun _ => 0))), ((fa0 9), .inl (cJ, 4610, .inr (.inl (fun _ => 0))))] sz) := by
  refine Met.ofW (cc := cX5_readQuestion) (maxL := 2) (ret := none) (by decide) rfl ?_
  intro p e s m args below meth c s₁ B hml hv
  obtain ⟨rfl, hsz, hP, hK, hD0⟩ := hv
  have hx := B.exec
  have hb := B.bytes
  have hr := B.returns
  have hts := atoms_spec (ws := wq_X5_readQuestion) B.pre
  have hown : s.vm.findClass RX5 = some m.cls := findClass_of_methodNamed B.named
  have hlocks := B.notSynchronized
  subst hsz
  have hD := hD0.self (sz := s.heap.size)
  generalize hAe : va_A [((fa0 16), .inr (5, [.ref (fa0 11), .ref (fa0 2), .ref (fa0 1), .int 0, .int 0, .int 0, .int 0, .int 0, .int 0, .long 0, .int 0])), ((fa0 11), .inr (2, [.ref (fa0 0), .ref (fa0 32), .ref (fa0 12), .ref (fa0 13), .ref (fa0 14), .ref (fa0 15), .int 0, .int 0, .int 0, .int 0, .int 0, .long 0])), ((fa0 0), .inl (cB, 3000, .inl (fun _ => 0))), ((fa0 12), .inl (cI, 801, .inl (fun _ => 0))), ((fa0 13), .inl (cI, 801, .inl (fun _ => 0))), ((fa0 14), .inl (cI, 801, .inl (fun _ => 0))), ((fa0 15), .inl (cJ, 801, .inr (.inl (fun _ => 0)))), ((fa0 2), .inr (1, [.ref (fa0 3), .ref (fa0 4), .ref (fa0 5), .ref (fa0 6), .ref (fa0 7), .ref (fa0 8), .ref (fa0 9), .ref (fa0 31), .ref (fa0 10), .int 1700, .int 3400, .int 0])), ((fa0 3), .inl (cI, 4610, .inl (fun _ => 0))), ((fa0 4), .inl (cI, 4610, .inl (fun _ => 0))), ((fa0 5), .inl (cI, 4610, .inl (fun _ => 0))), ((fa0 6), .inl (cI, 4610, .inl (fun _ => 0))), ((fa0 7), .inl (cI, 4610, .inl (fun _ => 0))), ((fa0 8), .inl (cI, 4610, .inl (fun _ => 0))), ((fa0 9), .inl (cJ, 4610, .inr (.inl (fun _ => 0))))] s.heap.size = A at hD ⊢
  have hA : ∀ q : Nat, s.heap.size ≤ q → A q := fun q h => by rw [← hAe]; exact Or.inr h
  have hS : va_S A s.heap s.heap [] := va_S.rf
  have hP : va_P (dC, dI) vwCl [((fa0 16), .inr (5, [.ref (fa0 11), .ref (fa0 2), .ref (fa0 1), .int 0, .int 0, .int 0, .int 0, .int 0, .int 0, .long 0, .int 0])), ((fa0 11), .inr (2, [.ref (fa0 0), .ref (fa0 32), .ref (fa0 12), .ref (fa0 13), .ref (fa0 14), .ref (fa0 15), .int 0, .int 0, .int 0, .int 0, .int 0, .long 0])), ((fa0 0), .inl (cB, 3000, .inl (fun _ => 0))), ((fa0 12), .inl (cI, 801, .inl (fun _ => 0))), ((fa0 13), .inl (cI, 801, .inl (fun _ => 0))), ((fa0 14), .inl (cI, 801, .inl (fun _ => 0))), ((fa0 15), .inl (cJ, 801, .inr (.inl (fun _ => 0)))), ((fa0 2), .inr (1, [.ref (fa0 3), .ref (fa0 4), .ref (fa0 5), .ref (fa0 6), .ref (fa0 7), .ref (fa0 8), .ref (fa0 9), .ref (fa0 31), .ref (fa0 10), .int 1700, .int 3400, .int 0])), ((fa0 3), .inl (cI, 4610, .inl (fun _ => 0))), ((fa0 4), .inl (cI, 4610, .inl (fun _ => 0))), ((fa0 5), .inl (cI, 4610, .inl (fun _ => 0))), ((fa0 6), .inl (cI, 4610, .inl (fun _ => 0))), ((fa0 7), .inl (cI, 4610, .inl (fun _ => 0))), ((fa0 8), .inl (cI, 4610, .inl (fun _ => 0))), ((fa0 9), .inl (cJ, 4610, .inr (.inl (fun _ => 0))))] s.heap := hP
  obtain ⟨H, hH⟩ : ∃ H, H = s.heap := ⟨_, rfl⟩
  rw [← hH] at hP
  have hS : va_S A s.heap H [] := by rw [hH]; exact hS
  have hl := lv_entry ([.ref (fa0 16), .int 0]) (n := 2) (Nat.le_of_ble_eq_true rfl)
  rw [lg_entry_eq]
  generalize (lg_sl ([.ref (fa0 16), .int 0]) ++ List.replicate (2 - (lg_sl ([.ref (fa0 16), .int 0])).length) Slot.unset).toArray = ls at hl ⊢
  have hl : lv_has ls 2 [(0, .ref (fa0 16)), (1, .int 0)] := hl
  refine pq_heap hH ?_
  refine lv_aload_n hx hb dX5_readQuestion_0 rfl (lv_at hl 0 rfl) ?_
  refine lv_iload_n hx hb dX5_readQuestion_1 rfl (lv_at hl 1 rfl) ?_
  refine pq_cv (wr := [((fa0 2), .inr (1, [.ref (fa0 3), .ref (fa0 4), .ref (fa0 5), .ref (fa0 6), .ref (fa0 7), .ref (fa0 8), .ref (fa0 9), .ref (fa0 31), .ref (fa0 10), .int 1700, .int 3400, .int 0])), ((fa0 3), .inl (cI, 4610, .inl (fun _ => 0))), ((fa0 4), .inl (cI, 4610, .inl (fun _ => 0))), ((fa0 5), .inl (cI, 4610, .inl (fun _ => 0))), ((fa0 6), .inl (cI, 4610, .inl (fun _ => 0))), ((fa0 7), .inl (cI, 4610, .inl (fun _ => 0))), ((fa0 8), .inl (cI, 4610, .inl (fun _ => 0))), ((fa0 9), .inl (cJ, 4610, .inr (.inl (fun _ => 0))))]) (W1 := (fun u => [((fa0 16), .inr (5, [.ref (fa0 11), .ref (fa0 2), .ref (fa0 1), .int 0, .int 260, .int 0, .int 0, .int 0, .int (-1), .long 0, .int 0])), ((fa0 0), .inl (cB, 3000, .inl (fun _ => 0))), ((fa0 12), .inl (cI, 801, .inl (upd (fun _ => 0) 0 260))), ((fa0 13), .inl (cI, 801, .inl (upd (fun _ => 0) 0 0))), ((fa0 14), .inl (cI, 801, .inl (upd (fun _ => 0) 0 0))), ((fa0 15), .inl (cJ, 801, .inr (.inl (vp_updL (fun _ => 0) 0 0)))), ((fa0 11), .inr (2, [.ref (fa0 0), .ref (fa0 32), .ref (fa0 12), .ref (fa0 13), .ref (fa0 14), .ref (fa0 15), .int 0, .int 0, .int 260, .int 0, .int 0, .long 0]))])) (va_runV (As := [.int 0]) (rest := []) ⟨hx, hb, hml, hown, hts⟩ (cq_X5_start l dC dI cB cI cJ cZ fa0 H.size) (cwV 1 hts gq_X5_readQuestion_X5_start_23 rfl rfl rfl (by decide +kernel) ⟨(by decide +kernel), (by decide +kernel)⟩) ⟨pq_blind, va_recv hK hP (ci := 5) (q0 := 0) rfl rfl, pq_pre hK hP hD [0, 1, 2, 3, 4, 5, 6] rfl rfl⟩ rfl rfl hl.1 rfl (lv_room (Nat.le_of_ble_eq_true rfl)) dX5_readQuestion_2 ⟨(by decide +kernel), (by decide +kernel)⟩) hP hD hS hA [0, 1, 2, 3, 4, 5, 6] [7, 8, 9, 10, 11, 12, 13, 14] rfl rfl rfl (by decide) (fun u1 H locs hw hP hD hS => ?_)
  have hR9 : pq_R (dC, dI) vwCl A [((fa0 2), .inr (1, [.ref (fa0 3), .ref (fa0 4), .ref (fa0 5), .ref (fa0 6), .ref (fa0 7), .ref (fa0 8), .ref (fa0 9), .ref (fa0 31), .ref (fa0 10), .int 1700, .int 3400, .int 0])), ((fa0 3), .inl (cI, 4610, .inl (fun _ => 0))), ((fa0 4), .inl (cI, 4610, .inl (fun _ => 0))), ((fa0 5), .inl (cI, 4610, .inl (fun _ => 0))), ((fa0 6), .inl (cI, 4610, .inl (fun _ => 0))), ((fa0 7), .inl (cI, 4610, .inl (fun _ => 0))), ((fa0 8), .inl (cI, 4610, .inl (fun _ => 0))), ((fa0 9), .inl (cJ, 4610, .inr (.inl (fun _ => 0)))), ((fa0 16), .inr (5, [.ref (fa0 11), .ref (fa0 2), .ref (fa0 1), .int 0, .int 260, .int 0, .int 0, .int 0, .int (-1), .long 0, .int 0])), ((fa0 0), .inl (cB, 3000, .inl (fun _ => 0))), ((fa0 12), .inl (cI, 801, .inl (upd (fun _ => 0) 0 260))), ((fa0 13), .inl (cI, 801, .inl (upd (fun _ => 0) 0 0))), ((fa0 14), .inl (cI, 801, .inl (upd (fun _ => 0) 0 0))), ((fa0 15), .inl (cJ, 801, .inr (.inl (vp_updL (fun _ => 0) 0 0)))), ((fa0 11), .inr (2, [.ref (fa0 0), .ref (fa0 32), .ref (fa0 12), .ref (fa0 13), .ref (fa0 14), .ref (fa0 15), .int 0, .int 0, .int 260, .int 0, .int 0, .long 0]))] H := ⟨hP, hD⟩
  have hP := hR9.1
  have hD := hR9.2
  refine W.widen (k := 0) (n := 0) (by decide +kernel) (by decide +kernel) ?_
  refine lv_aload_n hx hb dX5_readQuestion_5 rfl (lv_at hl 0 rfl) ?_
  refine pq_cv (wr := [((fa0 3), .inl (cI, 4610, .inl (fun _ => 0))), ((fa0 4), .inl (cI, 4610, .inl (fun _ => 0))), ((fa0 5), .inl (cI, 4610, .inl (fun _ => 0))), ((fa0 6), .inl (cI, 4610, .inl (fun _ => 0))), ((fa0 7), .inl (cI, 4610, .inl (fun _ => 0))), ((fa0 8), .inl (cI, 4610, .inl (fun _ => 0))), ((fa0 9), .inl (cJ, 4610, .inr (.inl (fun _ => 0)))), ((fa0 0), .inl (cB, 3000, .inl (fun _ => 0))), ((fa0 12), .inl (cI, 801, .inl (upd (fun _ => 0) 0 260))), ((fa0 13), .inl (cI, 801, .inl (upd (fun _ => 0) 0 0))), ((fa0 14), .inl (cI, 801, .inl (upd (fun _ => 0) 0 0))), ((fa0 15), .inl (cJ, 801, .inr (.inl (vp_updL (fun _ => 0) 0 0)))), ((fa0 11), .inr (2, [.ref (fa0 0), .ref (fa0 32), .ref (fa0 12), .ref (fa0 13), .ref (fa0 14), .ref (fa0 15), .int 0, .int 0, .int 260, .int 0, .int 0, .long 0]))]) (W1 := (fun u => [((fa0 2), .inr (1, [.ref (fa0 3), .ref (fa0 4), .ref (fa0 5), .ref (fa0 6), .ref (fa0 7), .ref (fa0 8), .ref (fa0 9), .ref (fa0 31), .ref (fa0 10), .int 1700, .int 3400, .int 0])), ((fa0 16), .inr (5, [.ref (fa0 11), .ref (fa0 2), .ref (fa0 1), .int 0, .int (-1), .int 0, .int 0, .int 1, .int 0, .long 0, .int 0]))])) (va_runV (As := []) (rest := []) ⟨hx, hb, hml, hown, hts⟩ (cq_X5_readE l dC dI cB cI cJ cZ fa0 H.size) (cwV 0 hts gq_X5_readQuestion_X5_readE_40 rfl rfl rfl (by decide +kernel) ⟨(by decide +kernel), (by decide +kernel)⟩) ⟨pq_blind, va_recv hK hP (ci := 5) (q0 := 8) rfl rfl, pq_pre hK hP hD [8, 0] rfl rfl⟩ rfl rfl hl.1 rfl (lv_room (Nat.le_of_ble_eq_true rfl)) dX5_readQuestion_6 ⟨(by decide +kernel), (by decide +kernel)⟩) hP hD hS hA [8, 0] [1, 2, 3, 4, 5, 6, 7, 9, 10, 11, 12, 13, 14] rfl rfl rfl (by decide) (fun u2 H locs hw hP hD hS => ?_)
  have hR9 : pq_R (dC, dI) vwCl A [((fa0 3), .inl (cI, 4610, .inl (fun _ => 0))), ((fa0 4), .inl (cI, 4610, .inl (fun _ => 0))), ((fa0 5), .inl (cI, 4610, .inl (fun _ => 0))), ((fa0 6), .inl (cI, 4610, .inl (fun _ => 0))), ((fa0 7), .inl (cI, 4610, .inl (fun _ => 0))), ((fa0 8), .inl (cI, 4610, .inl (fun _ => 0))), ((fa0 9), .inl (cJ, 4610, .inr (.inl (fun _ => 0)))), ((fa0 0), .inl (cB, 3000, .inl (fun _ => 0))), ((fa0 12), .inl (cI, 801, .inl (upd (fun _ => 0) 0 260))), ((fa0 13), .inl (cI, 801, .inl (upd (fun _ => 0) 0 0))), ((fa0 14), .inl (cI, 801, .inl (upd (fun _ => 0) 0 0))), ((fa0 15), .inl (cJ, 801, .inr (.inl (vp_updL (fun _ => 0) 0 0)))), ((fa0 11), .inr (2, [.ref (fa0 0), .ref (fa0 32), .ref (fa0 12), .ref (fa0 13), .ref (fa0 14), .ref (fa0 15), .int 0, .int 0, .int 260, .int 0, .int 0, .long 0])), ((fa0 2), .inr (1, [.ref (fa0 3), .ref (fa0 4), .ref (fa0 5), .ref (fa0 6), .ref (fa0 7), .ref (fa0 8), .ref (fa0 9), .ref (fa0 31), .ref (fa0 10), .int 1700, .int 3400, .int 0])), ((fa0 16), .inr (5, [.ref (fa0 11), .ref (fa0 2), .ref (fa0 1), .int 0, .int (-1), .int 0, .int 0, .int 1, .int 0, .long 0, .int 0]))] H := ⟨hP, hD⟩
  have hP := hR9.1
  have hD := hR9.2
  refine W.widen (k := 0) (n := 0) (by decide +kernel) (by decide +kernel) ?_
  refine lv_aload_n hx hb dX5_readQuestion_9 rfl (lv_at hl 0 rfl) ?_
  refine va_get (D := (dC, dI)) (ci := 5) (v := .int (-1)) (C := RX5) (T := TX5) (N := 11) hx hb hts iq_X5_readQuestion_X5 hown hK hP 14 rfl rfl 4 (by decide) (hts (Cond.fieldLink RX5 27 "CodePress$Parser" "kind" "I") (List.mem_of_getElem? (i := 32) rfl)) (fun _ h9 => h9) rfl dX5_readQuestion_10 ?_
  refine lv_sipush (v := 260) hx hb dX5_readQuestion_13 (by decide) ?_
  refine lv_icmp_eq (tgt := 24) hx hb dX5_readQuestion_16 (by decide) (fun c_ => absurd c_ (by decide)) (fun _ => ?_)
  refine lv_aload_n hx hb dX5_readQuestion_19 rfl (lv_at hl 0 rfl) ?_
  refine lv_iconst (v := 1) hx hb dX5_readQuestion_20 (by decide) ?_
  refine pq_cv (wr := [((fa0 3), .inl (cI, 4610, .inl (fun _ => 0))), ((fa0 4), .inl (cI, 4610, .inl (fun _ => 0))), ((fa0 5), .inl (cI, 4610, .inl (fun _ => 0))), ((fa0 6), .inl (cI, 4610, .inl (fun _ => 0))), ((fa0 7), .inl (cI, 4610, .inl (fun _ => 0))), ((fa0 8), .inl (cI, 4610, .inl (fun _ => 0))), ((fa0 9), .inl (cJ, 4610, .inr (.inl (fun _ => 0)))), ((fa0 0), .inl (cB, 3000, .inl (fun _ => 0))), ((fa0 12), .inl (cI, 801, .inl (upd (fun _ => 0) 0 260))), ((fa0 13), .inl (cI, 801, .inl (upd (fun _ => 0) 0 0))), ((fa0 14), .inl (cI, 801, .inl (upd (fun _ => 0) 0 0))), ((fa0 15), .inl (cJ, 801, .inr (.inl (vp_updL (fun _ => 0) 0 0)))), ((fa0 11), .inr (2, [.ref (fa0 0), .ref (fa0 32), .ref (fa0 12), .ref (fa0 13), .ref (fa0 14), .ref (fa0 15), .int 0, .int 0, .int 260, .int 0, .int 0, .long 0])), ((fa0 2), .inr (1, [.ref (fa0 3), .ref (fa0 4), .ref (fa0 5), .ref (fa0 6), .ref (fa0 7), .ref (fa0 8), .ref (fa0 9), .ref (fa0 31), .ref (fa0 10), .int 1700, .int 3400, .int 0]))]) (W1 := (fun u => [((fa0 16), .inr (5, [.ref (fa0 11), .ref (fa0 2), .ref (fa0 1), .int 0, .int (-1), .int 0, .int 0, .int 1, .int 0, .long 0, .int 0]))])) (va_runV (As := [.int 1]) (rest := []) ⟨hx, hb, hml, hown, hts⟩ (cq_X5_fail_1 l dC dI cB cI cJ cZ fa0 H.size) (cwV 1 hts gq_X5_readQuestion_X5_fail_1_37 rfl rfl rfl (by decide +kernel) ⟨(by decide +kernel), (by decide +kernel)⟩) ⟨pq_blind, va_recv hK hP (ci := 5) (q0 := 14) rfl rfl, pq_pre hK hP hD [14] rfl rfl⟩ rfl rfl hl.1 rfl (lv_room (Nat.le_of_ble_eq_true rfl)) dX5_readQuestion_21 ⟨(by decide +kernel), (by decide +kernel)⟩) hP hD hS hA [14] [0, 1, 2, 3, 4, 5, 6, 7, 8, 9, 10, 11, 12, 13] rfl rfl rfl (by decide) (fun u3 H locs hw hP hD hS => ?_)
  have hR9 : pq_R (dC, dI) vwCl A [((fa0 3), .inl (cI, 4610, .inl (fun _ => 0))), ((fa0 4), .inl (cI, 4610, .inl (fun _ => 0))), ((fa0 5), .inl (cI, 4610, .inl (fun _ => 0))), ((fa0 6), .inl (cI, 4610, .inl (fun _ => 0))), ((fa0 7), .inl (cI, 4610, .inl (fun _ => 0))), ((fa0 8), .inl (cI, 4610, .inl (fun _ => 0))), ((fa0 9), .inl (cJ, 4610, .inr (.inl (fun _ => 0)))), ((fa0 0), .inl (cB, 3000, .inl (fun _ => 0))), ((fa0 12), .inl (cI, 801, .inl (upd (fun _ => 0) 0 260))), ((fa0 13), .inl (cI, 801, .inl (upd (fun _ => 0) 0 0))), ((fa0 14), .inl (cI, 801, .inl (upd (fun _ => 0) 0 0))), ((fa0 15), .inl (cJ, 801, .inr (.inl (vp_updL (fun _ => 0) 0 0)))), ((fa0 11), .inr (2, [.ref (fa0 0), .ref (fa0 32), .ref (fa0 12), .ref (fa0 13), .ref (fa0 14), .ref (fa0 15), .int 0, .int 0, .int 260, .int 0, .int 0, .long 0])), ((fa0 2), .inr (1, [.ref (fa0 3), .ref (fa0 4), .ref (fa0 5), .ref (fa0 6), .ref (fa0 7), .ref (fa0 8), .ref (fa0 9), .ref (fa0 31), .ref (fa0 10), .int 1700, .int 3400, .int 0])), ((fa0 16), .inr (5, [.ref (fa0 11), .ref (fa0 2), .ref (fa0 1), .int 0, .int (-1), .int 0, .int 0, .int 1, .int 0, .long 0, .int 0]))] H := ⟨hP, hD⟩
  have hP := hR9.1
  have hD := hR9.2
  refine W.widen (k := 0) (n := 0) (by decide +kernel) (by decide +kernel) ?_
  refine lv_aload_n hx hb dX5_readQuestion_24 rfl (lv_at hl 0 rfl) ?_
  refine va_get (D := (dC, dI)) (ci := 5) (v := .ref (fa0 2)) (C := RX5) (T := TX5) (N := 11) hx hb hts iq_X5_readQuestion_X5 hown hK hP 14 rfl rfl 1 (by decide) (hts (Cond.fieldLink RX5 15 "CodePress$Parser" "code" "LCodePress$Code;") (List.mem_of_getElem? (i := 41) rfl)) (fun _ h9 => h9) rfl dX5_readQuestion_25 ?_
  refine lv_bipush (v := 13) hx hb dX5_readQuestion_28 (by decide) ?_
  refine lv_iload_n hx hb dX5_readQuestion_30 rfl (lv_at hl 1 rfl) ?_
  refine pq_ci (wr := [((fa0 0), .inl (cB, 3000, .inl (fun _ => 0))), ((fa0 12), .inl (cI, 801, .inl (upd (fun _ => 0) 0 260))), ((fa0 13), .inl (cI, 801, .inl (upd (fun _ => 0) 0 0))), ((fa0 14), .inl (cI, 801, .inl (upd (fun _ => 0) 0 0))), ((fa0 15), .inl (cJ, 801, .inr (.inl (vp_updL (fun _ => 0) 0 0)))), ((fa0 11), .inr (2, [.ref (fa0 0), .ref (fa0 32), .ref (fa0 12), .ref (fa0 13), .ref (fa0 14), .ref (fa0 15), .int 0, .int 0, .int 260, .int 0, .int 0, .long 0])), ((fa0 16), .inr (5, [.ref (fa0 11), .ref (fa0 2), .ref (fa0 1), .int 0, .int (-1), .int 0, .int 0, .int 1, .int 0, .long 0, .int 0]))]) (W1 := (fun u => [((fa0 2), .inr (1, [.ref (fa0 3), .ref (fa0 4), .ref (fa0 5), .ref (fa0 6), .ref (fa0 7), .ref (fa0 8), .ref (fa0 9), .ref (fa0 31), .ref (fa0 10), .int 1701, .int 3400, .int 0])), ((fa0 3), .inl (cI, 4610, .inl (upd (fun _ => 0) 1700 13))), ((fa0 4), .inl (cI, 4610, .inl (upd (fun _ => 0) 1700 0))), ((fa0 5), .inl (cI, 4610, .inl (upd (fun _ => 0) 1700 0))), ((fa0 6), .inl (cI, 4610, .inl (upd (fun _ => 0) 1700 1700))), ((fa0 7), .inl (cI, 4610, .inl (upd (fun _ => 0) 1700 0))), ((fa0 8), .inl (cI, 4610, .inl (upd (fun _ => 0) 1700 0))), ((fa0 9), .inl (cJ, 4610, .inr (.inl (vp_updL (fun _ => 0) 1700 0))))])) (va_runV (As := [.int 13, .int 0]) (rest := []) ⟨hx, hb, hml, hown, hts⟩ (cq_X1_emit l dC dI cB cI cJ cZ fa0 H.size) (cwV 2 hts gq_X5_readQuestion_X1_emit_45 rfl rfl rfl (by decide +kernel) ⟨(by decide +kernel), (by decide +kernel)⟩) ⟨pq_blind, va_recv hK hP (ci := 1) (q0 := 13) rfl rfl, pq_pre hK hP hD [13, 0, 1, 2, 3, 4, 5, 6] rfl rfl⟩ rfl rfl hl.1 rfl (lv_room (Nat.le_of_ble_eq_true rfl)) dX5_readQuestion_31 ⟨(by decide +kernel), (by decide +kernel)⟩) hP hD hS hA [13, 0, 1, 2, 3, 4, 5, 6] [7, 8, 9, 10, 11, 12, 14] rfl rfl rfl (by decide) (fun r5 u4 H locs hw hP hD hS => ?_)
  subst hw
  have hR9 : pq_R (dC, dI) vwCl A [((fa0 0), .inl (cB, 3000, .inl (fun _ => 0))), ((fa0 12), .inl (cI, 801, .inl (upd (fun _ => 0) 0 260))), ((fa0 13), .inl (cI, 801, .inl (upd (fun _ => 0) 0 0))), ((fa0 14), .inl (cI, 801, .inl (upd (fun _ => 0) 0 0))), ((fa0 15), .inl (cJ, 801, .inr (.inl (vp_updL (fun _ => 0) 0 0)))), ((fa0 11), .inr (2, [.ref (fa0 0), .ref (fa0 32), .ref (fa0 12), .ref (fa0 13), .ref (fa0 14), .ref (fa0 15), .int 0, .int 0, .int 260, .int 0, .int 0, .long 0])), ((fa0 16), .inr (5, [.ref (fa0 11), .ref (fa0 2), .ref (fa0 1), .int 0, .int (-1), .int 0, .int 0, .int 1, .int 0, .long 0, .int 0])), ((fa0 2), .inr (1, [.ref (fa0 3), .ref (fa0 4), .ref (fa0 5), .ref (fa0 6), .ref (fa0 7), .ref (fa0 8), .ref (fa0 9), .ref (fa0 31), .ref (fa0 10), .int 1701, .int 3400, .int 0])), ((fa0 3), .inl (cI, 4610, .inl (upd (fun _ => 0) 1700 13))), ((fa0 4), .inl (cI, 4610, .inl (upd (fun _ => 0) 1700 0))), ((fa0 5), .inl (cI, 4610, .inl (upd (fun _ => 0) 1700 0))), ((fa0 6), .inl (cI, 4610, .inl (upd (fun _ => 0) 1700 1700))), ((fa0 7), .inl (cI, 4610, .inl (upd (fun _ => 0) 1700 0))), ((fa0 8), .inl (cI, 4610, .inl (upd (fun _ => 0) 1700 0))), ((fa0 9), .inl (cJ, 4610, .inr (.inl (vp_updL (fun _ => 0) 1700 0))))] H := ⟨hP, hD⟩
  have hP := hR9.1
  have hD := hR9.2
  refine W.widen (k := 0) (n := 0) (by decide +kernel) (by decide +kernel) ?_
  refine lv_pop hx hb dX5_readQuestion_34 rfl ?_
  have hP9 := pq_P.pick (wc := [((fa0 0), .inl (cB, 3000, .inl (fun _ => 0))), ((fa0 12), .inl (cI, 801, .inl (upd (fun _ => 0) 0 260))), ((fa0 13), .inl (cI, 801, .inl (upd (fun _ => 0) 0 0))), ((fa0 14), .inl (cI, 801, .inl (upd (fun _ => 0) 0 0))), ((fa0 15), .inl (cJ, 801, .inr (.inl (vp_updL (fun _ => 0) 0 0)))), ((fa0 11), .inr (2, [.ref (fa0 0), .ref (fa0 32), .ref (fa0 12), .ref (fa0 13), .ref (fa0 14), .ref (fa0 15), .int 0, .int 0, .int 260, .int 0, .int 0, .long 0])), ((fa0 16), .inr (5, [.ref (fa0 11), .ref (fa0 2), .ref (fa0 1), .int 0, .int (-1), .int 0, .int 0, .int 1, .int 0, .long 0, .int 0])), ((fa0 2), .inr (1, [.ref (fa0 3), .ref (fa0 4), .ref (fa0 5), .ref (fa0 6), .ref (fa0 7), .ref (fa0 8), .ref (fa0 9), .ref (fa0 31), .ref (fa0 10), .int 1701, .int 3400, .int 0])), ((fa0 3), .inl (cI, 4610, .inl (upd (fun _ => 0) 1700 13))), ((fa0 4), .inl (cI, 4610, .inl (upd (fun _ => 0) 1700 0))), ((fa0 5), .inl (cI, 4610, .inl (upd (fun _ => 0) 1700 0))), ((fa0 6), .inl (cI, 4610, .inl (upd (fun _ => 0) 1700 1700))), ((fa0 7), .inl (cI, 4610, .inl (upd (fun _ => 0) 1700 0))), ((fa0 8), .inl (cI, 4610, .inl (upd (fun _ => 0) 1700 0))), ((fa0 9), .inl (cJ, 4610, .inr (.inl (vp_updL (fun _ => 0) 1700 0))))]) hP [0, 1, 2, 3, 4, 5, 6, 7, 8, 9, 10, 11, 12, 13, 14] rfl
  have hD9 := hD.sub (ws' := [((fa0 0), .inl (cB, 3000, .inl (fun _ => 0))), ((fa0 12), .inl (cI, 801, .inl (upd (fun _ => 0) 0 260))), ((fa0 13), .inl (cI, 801, .inl (upd (fun _ => 0) 0 0))), ((fa0 14), .inl (cI, 801, .inl (upd (fun _ => 0) 0 0))), ((fa0 15), .inl (cJ, 801, .inr (.inl (vp_updL (fun _ => 0) 0 0)))), ((fa0 11), .inr (2, [.ref (fa0 0), .ref (fa0 32), .ref (fa0 12), .ref (fa0 13), .ref (fa0 14), .ref (fa0 15), .int 0, .int 0, .int 260, .int 0, .int 0, .long 0])), ((fa0 16), .inr (5, [.ref (fa0 11), .ref (fa0 2), .ref (fa0 1), .int 0, .int (-1), .int 0, .int 0, .int 1, .int 0, .long 0, .int 0])), ((fa0 2), .inr (1, [.ref (fa0 3), .ref (fa0 4), .ref (fa0 5), .ref (fa0 6), .ref (fa0 7), .ref (fa0 8), .ref (fa0 9), .ref (fa0 31), .ref (fa0 10), .int 1701, .int 3400, .int 0])), ((fa0 3), .inl (cI, 4610, .inl (upd (fun _ => 0) 1700 13))), ((fa0 4), .inl (cI, 4610, .inl (upd (fun _ => 0) 1700 0))), ((fa0 5), .inl (cI, 4610, .inl (upd (fun _ => 0) 1700 0))), ((fa0 6), .inl (cI, 4610, .inl (upd (fun _ => 0) 1700 1700))), ((fa0 7), .inl (cI, 4610, .inl (upd (fun _ => 0) 1700 0))), ((fa0 8), .inl (cI, 4610, .inl (upd (fun _ => 0) 1700 0))), ((fa0 9), .inl (cJ, 4610, .inr (.inl (vp_updL (fun _ => 0) 1700 0))))]) [0, 1, 2, 3, 4, 5, 6, 7, 8, 9, 10, 11, 12, 13, 14] (by decide) rfl
  refine W.widen (k := 0) (n := 0) (by decide +kernel) (by decide +kernel) ?_
  exact W.vret hx hb hr (fun t ht hW => ⟨⟨sq_u [] [], rfl, trivial, pq_B.of ht hP9 hD9⟩, hS.F ht⟩) hS.2.2 dX5_readQuestion_35
def wq_X10_isSound_1_r1 : List Cond := [Cond.fieldLink RX10 51 "CodePress" "parser" "LCodePress$Parser;", Cond.fieldLink RX10 198 "CodePress$Parser" "fault" "I", Cond.fieldLink RX10 156 "CodePress" "faultKind" "I", Cond.fieldLink RX10 201 "CodePress$Parser" "place" "I", Cond.fieldLink RX10 101 "CodePress" "faultPlace" "I"]
def wq_X10_isSound_1 : List Cond := Cond.code yX10_isSound cX10_isSound 2 (some .boolean) :: (wq_X10_isSound_1_r1 ++ wsX100 ++ wsX50)
theorem iq_X10_isSound_1_X10 : ∀ w ∈ wsX100, w ∈ wq_X10_isSound_1 := fun _ h => List.mem_cons_of_mem _ (List.mem_append_left _ (List.mem_append_right _ h))
theorem iq_X10_isSound_1_X5 : ∀ w ∈ wsX50, w ∈ wq_X10_isSound_1 := fun _ h => List.mem_cons_of_mem _ (List.mem_append_right _ h)
set_option maxHeartbeats 4000000 in
set_option maxRecDepth 100000 in
theorem cq_X10_isSound_1 (l : Launch) (dC : Nat → ClassId) (dI : Nat → Nat → Nat) (cB cI cJ cZ : ClassId) (h0 : Nat) (fa0 : Nat → Nat) (sz : Nat) : Met l yX10_isSound wq_X10_isSound_1 ({ frames := 0, cells := 0, slots := 0, locals := 0 }) (va_Pc [.ref h0, .int 1700] (pq_W (dC, dI) vwCl (tyQ cB cI cJ cZ) [(h0, .inr (10, [.ref (fa0 0), .ref (fa0 1), .ref (fa0 2), .ref (fa0 20), .ref (fa0 21), .ref (fa0 16), .ref (fa0 17), .ref (fa0 22), .ref (fa0 23), .ref (fa0 18), .ref (fa0 24), .ref (fa0 25), .ref (fa0 19), .int 0, .int 0, .int (-1), .int 0, .int 0, .int 0])), ((fa0 16), .inr (5, [.ref (fa0 11), .ref (fa0 2), .ref (fa0 1), .int 0, .int (-1), .int 0, .int 0, .int 1, .int 0, .long 0, .int 0]))] sz)) (va_Qi (fun (r : Int32) (_ : SQ) => r = 0) (fun u => pq_B (dC, dI) vwCl [(h0, .inr (10, [.ref (fa0 0), .ref (fa0 1), .ref (fa0 2), .ref (fa0 20), .ref (fa0 21), .ref (fa0 16), .ref (fa0 17), .ref (fa0 22), .ref (fa0 23), .ref (fa0 18), .ref (fa0 24), .ref (fa0 25), .ref (fa0 19), .int 0, .int 1, .int 0, .int 0, .int 0, .int 0])), ((fa0 16), .inr (5, [.ref (fa0 11), .ref (fa0 2), .ref (fa0 1), .int 0, .int (-1), .int 0, .int 0, .int 1, .int 0, .long 0, .int 0]))] (va_A [(h0, .inr (10, [.ref (fa0 0), .ref (fa0 1), .ref (fa0 2), .ref (fa0 20), .ref (fa0 21), .ref (fa0 16), .ref (fa0 17), .ref (fa0 22), .ref (fa0 23), .ref (fa0 18), .ref (fa0 24), .ref (fa0 25), .ref (fa0 19), .int 0, .int 0, .int (-1), .int 0, .int 0, .int 0])), ((fa0 16), .inr (5, [.ref (fa0 11), .ref (fa0 2), .ref (fa0 1), .int 0, .int (-1), .int 0, .int 0, .int 1, .int 0, .long 0, .int 0]))] sz)) (va_A [(h0, .inr (10, [.ref (fa0 0), .ref (fa0 1), .ref (fa0 2), .ref (fa0 20), .ref (fa0 21), .ref (fa0 16), .ref (fa0 17), .ref (fa0 22), .ref (fa0 23), .ref (fa0 18), .ref (fa0 24), .ref (fa0 25), .ref (fa0 19), .int 0, .int 0, .int (-1), .int 0, .int 0, .int 0])), ((fa0 16), .inr (5, [.ref (fa0 11), .ref (fa0 2), .ref (fa0 1), .int 0, .int (-1), .int 0, .int 0, .int 1, .int 0, .long 0, .int 0]))] sz)) 0 0 (va_A [(h0, .inr (10, [.ref (fa0 0), .ref (fa0 1), .ref (fa0 2), .ref (fa0 20), .ref (fa0 21), .ref (fa0 16), .ref (fa0 17), .ref (fa0 22), .ref (fa0 23), .ref (fa0 18), .ref (fa0 24), .ref (fa0 25), .ref (fa0 19), .int 0, .int 0, .int (-1), .int 0, .int 0, .int 0])), ((fa0 16), .inr (5, [.ref (fa0 11), .ref (fa0 2), .ref (fa0 1), .int 0, .int (-1), .int 0, .int 0, .int 1, .int 0, .long 0, .int 0]))] sz) := by
  refine Met.ofW (cc := cX10_isSound) (maxL := 2) (ret := (some .boolean)) (by decide) rfl ?_
  intro p e s m args below meth c s₁ B hml hv
  obtain ⟨rfl, hsz, hP, hK, hD0⟩ := hv
  have hx := B.exec
  have hb := B.bytes
  have hr := B.returns
  have hts := atoms_spec (ws := wq_X10_isSound_1) B.pre
  have hown : s.vm.findClass RX10 = some m.cls := findClass_of_methodNamed B.named
  have hlocks := B.notSynchronized
  subst hsz
  have hD := hD0.self (sz := s.heap.size)
  generalize hAe : va_A [(h0, .inr (10, [.ref (fa0 0), .ref (fa0 1), .ref (fa0 2), .ref (fa0 20), .ref (fa0 21), .ref (fa0 16), .ref (fa0 17), .ref (fa0 22), .ref (fa0 23), .ref (fa0 18), .ref (fa0 24), .ref (fa0 25), .ref (fa0 19), .int 0, .int 0, .int (-1), .int 0, .int 0, .int 0])), ((fa0 16), .inr (5, [.ref (fa0 11), .ref (fa0 2), .ref (fa0 1), .int 0, .int (-1), .int 0, .int 0, .int 1, .int 0, .long 0, .int 0]))] s.heap.size = A at hD ⊢
  have hA : ∀ q : Nat, s.heap.size ≤ q → A q := fun q h => by rw [← hAe]; exact Or.inr h
  have hS : va_S A s.heap s.heap [] := va_S.rf
  have hP : va_P (dC, dI) vwCl [(h0, .inr (10, [.ref (fa0 0), .ref (fa0 1), .ref (fa0 2), .ref (fa0 20), .ref (fa0 21), .ref (fa0 16), .ref (fa0 17), .ref (fa0 22), .ref (fa0 23), .ref (fa0 18), .ref (fa0 24), .ref (fa0 25), .ref (fa0 19), .int 0, .int 0, .int (-1), .int 0, .int 0, .int 0])), ((fa0 16), .inr (5, [.ref (fa0 11), .ref (fa0 2), .ref (fa0 1), .int 0, .int (-1), .int 0, .int 0, .int 1, .int 0, .long 0, .int 0]))] s.heap := hP
  obtain ⟨H, hH⟩ : ∃ H, H = s.heap := ⟨_, rfl⟩
  rw [← hH] at hP
  have hS : va_S A s.heap H [] := by rw [hH]; exact hS
  have hl := lv_entry ([.ref h0, .int 1700]) (n := 2) (Nat.le_of_ble_eq_true rfl)
  rw [lg_entry_eq]
  generalize (lg_sl ([.ref h0, .int 1700]) ++ List.replicate (2 - (lg_sl ([.ref h0, .int 1700])).length) Slot.unset).toArray = ls at hl ⊢
  have hl : lv_has ls 2 [(0, .ref h0), (1, .int 1700)] := hl
  refine pq_heap hH ?_
  refine lv_aload_n hx hb dX10_isSound_0 rfl (lv_at hl 0 rfl) ?_
  refine lv_aload_n hx hb dX10_isSound_1 rfl (lv_at hl 0 rfl) ?_
  refine va_get (D := (dC, dI)) (ci := 10) (v := .ref (fa0 16)) (C := RX10) (T := TX10) (N := 19) hx hb hts iq_X10_isSound_1_X10 hown hK hP 0 rfl rfl 5 (by decide) (hts (Cond.fieldLink RX10 51 "CodePress" "parser" "LCodePress$Parser;") (List.mem_of_getElem? (i := 1) rfl)) (fun _ h9 => h9) rfl dX10_isSound_2 ?_
  refine va_get (D := (dC, dI)) (ci := 5) (v := .int 1) (C := RX5) (T := TX5) (N := 11) hx hb hts iq_X10_isSound_1_X5 hown hK hP 1 rfl rfl 7 (by decide) (hts (Cond.fieldLink RX10 198 "CodePress$Parser" "fault" "I") (List.mem_of_getElem? (i := 2) rfl)) (fun _ h9 => h9) rfl dX10_isSound_5 ?_
  refine va_put (D := (dC, dI)) (ci := 10) (v := .int 1) (ty := .int) (C := RX10) (T := TX10) (N := 19) hx hb hts iq_X10_isSound_1_X10 tyX10 tyX10_ok nmX10 hown hK hP hD hS 0 rfl rfl 14 (by decide) (hts (Cond.fieldLink RX10 156 "CodePress" "faultKind" "I") (List.mem_of_getElem? (i := 3) rfl)) (fun _ h9 => h9) rfl (by decide +kernel) rfl rfl (Nat.le_of_ble_eq_true rfl) dX10_isSound_8 (fun H locs hP hD hS => ?_)
  have hR9 : pq_R (dC, dI) vwCl A [(h0, .inr (10, [.ref (fa0 0), .ref (fa0 1), .ref (fa0 2), .ref (fa0 20), .ref (fa0 21), .ref (fa0 16), .ref (fa0 17), .ref (fa0 22), .ref (fa0 23), .ref (fa0 18), .ref (fa0 24), .ref (fa0 25), .ref (fa0 19), .int 0, .int 1, .int (-1), .int 0, .int 0, .int 0])), ((fa0 16), .inr (5, [.ref (fa0 11), .ref (fa0 2), .ref (fa0 1), .int 0, .int (-1), .int 0, .int 0, .int 1, .int 0, .long 0, .int 0]))] H := ⟨hP, hD⟩
  have hP := hR9.1
  have hD := hR9.2
  refine lv_aload_n hx hb dX10_isSound_11 rfl (lv_at hl 0 rfl) ?_
  refine lv_aload_n hx hb dX10_isSound_12 rfl (lv_at hl 0 rfl) ?_
  refine va_get (D := (dC, dI)) (ci := 10) (v := .ref (fa0 16)) (C := RX10) (T := TX10) (N := 19) hx hb hts iq_X10_isSound_1_X10 hown hK hP 0 rfl rfl 5 (by decide) (hts (Cond.fieldLink RX10 51 "CodePress" "parser" "LCodePress$Parser;") (List.mem_of_getElem? (i := 1) rfl)) (fun _ h9 => h9) rfl dX10_isSound_13 ?_
  refine va_get (D := (dC, dI)) (ci := 5) (v := .int 0) (C := RX5) (T := TX5) (N := 11) hx hb hts iq_X10_isSound_1_X5 hown hK hP 1 rfl rfl 8 (by decide) (hts (Cond.fieldLink RX10 201 "CodePress$Parser" "place" "I") (List.mem_of_getElem? (i := 4) rfl)) (fun _ h9 => h9) rfl dX10_isSound_16 ?_
  refine va_put (D := (dC, dI)) (ci := 10) (v := .int 0) (ty := .int) (C := RX10) (T := TX10) (N := 19) hx hb hts iq_X10_isSound_1_X10 tyX10 tyX10_ok nmX10 hown hK hP hD hS 0 rfl rfl 15 (by decide) (hts (Cond.fieldLink RX10 101 "CodePress" "faultPlace" "I") (List.mem_of_getElem? (i := 5) rfl)) (fun _ h9 => h9) rfl (by decide +kernel) rfl rfl (Nat.le_of_ble_eq_true rfl) dX10_isSound_19 (fun H locs hP hD hS => ?_)
  have hR9 : pq_R (dC, dI) vwCl A [(h0, .inr (10, [.ref (fa0 0), .ref (fa0 1), .ref (fa0 2), .ref (fa0 20), .ref (fa0 21), .ref (fa0 16), .ref (fa0 17), .ref (fa0 22), .ref (fa0 23), .ref (fa0 18), .ref (fa0 24), .ref (fa0 25), .ref (fa0 19), .int 0, .int 1, .int 0, .int 0, .int 0, .int 0])), ((fa0 16), .inr (5, [.ref (fa0 11), .ref (fa0 2), .ref (fa0 1), .int 0, .int (-1), .int 0, .int 0, .int 1, .int 0, .long 0, .int 0]))] H := ⟨hP, hD⟩
  have hP := hR9.1
  have hD := hR9.2
  refine lv_aload_n hx hb dX10_isSound_22 rfl (lv_at hl 0 rfl) ?_
  refine va_get (D := (dC, dI)) (ci := 10) (v := .int 1) (C := RX10) (T := TX10) (N := 19) hx hb hts iq_X10_isSound_1_X10 hown hK hP 0 rfl rfl 14 (by decide) (hts (Cond.fieldLink RX10 156 "CodePress" "faultKind" "I") (List.mem_of_getElem? (i := 3) rfl)) (fun _ h9 => h9) rfl dX10_isSound_23 ?_
  refine lv_if_ne (tgt := 66) hx hb dX10_isSound_26 (by decide) (fun _ => ?_) (fun c_ => absurd c_ (by decide))
  refine lv_aload_n hx hb dX10_isSound_66 rfl (lv_at hl 0 rfl) ?_
  refine va_get (D := (dC, dI)) (ci := 10) (v := .int 1) (C := RX10) (T := TX10) (N := 19) hx hb hts iq_X10_isSound_1_X10 hown hK hP 0 rfl rfl 14 (by decide) (hts (Cond.fieldLink RX10 156 "CodePress" "faultKind" "I") (List.mem_of_getElem? (i := 3) rfl)) (fun _ h9 => h9) rfl dX10_isSound_67 ?_
  refine lv_if_ne (tgt := 78) hx hb dX10_isSound_70 (by decide) (fun _ => ?_) (fun c_ => absurd c_ (by decide))
  refine lv_aload_n hx hb dX10_isSound_78 rfl (lv_at hl 0 rfl) ?_
  refine va_get (D := (dC, dI)) (ci := 10) (v := .int 1) (C := RX10) (T := TX10) (N := 19) hx hb hts iq_X10_isSound_1_X10 hown hK hP 0 rfl rfl 14 (by decide) (hts (Cond.fieldLink RX10 156 "CodePress" "faultKind" "I") (List.mem_of_getElem? (i := 3) rfl)) (fun _ h9 => h9) rfl dX10_isSound_79 ?_
  refine lv_if_ne (tgt := 89) hx hb dX10_isSound_82 (by decide) (fun _ => ?_) (fun c_ => absurd c_ (by decide))
  refine lv_iconst (v := 0) hx hb dX10_isSound_89 (by decide) ?_
  have hP9 := pq_P.pick (wc := [(h0, .inr (10, [.ref (fa0 0), .ref (fa0 1), .ref (fa0 2), .ref (fa0 20), .ref (fa0 21), .ref (fa0 16), .ref (fa0 17), .ref (fa0 22), .ref (fa0 23), .ref (fa0 18), .ref (fa0 24), .ref (fa0 25), .ref (fa0 19), .int 0, .int 1, .int 0, .int 0, .int 0, .int 0])), ((fa0 16), .inr (5, [.ref (fa0 11), .ref (fa0 2), .ref (fa0 1), .int 0, .int (-1), .int 0, .int 0, .int 1, .int 0, .long 0, .int 0]))]) hP [0, 1] rfl
  have hD9 := hD.sub (ws' := [(h0, .inr (10, [.ref (fa0 0), .ref (fa0 1), .ref (fa0 2), .ref (fa0 20), .ref (fa0 21), .ref (fa0 16), .ref (fa0 17), .ref (fa0 22), .ref (fa0 23), .ref (fa0 18), .ref (fa0 24), .ref (fa0 25), .ref (fa0 19), .int 0, .int 1, .int 0, .int 0, .int 0, .int 0])), ((fa0 16), .inr (5, [.ref (fa0 11), .ref (fa0 2), .ref (fa0 1), .int 0, .int (-1), .int 0, .int 0, .int 1, .int 0, .long 0, .int 0]))]) [0, 1] (by decide) rfl
  refine W.widen (k := 0) (n := 0) (by decide +kernel) (by decide +kernel) ?_
  exact W.zret (v := 0) hx hb hr rfl (fun t ht hW => ⟨⟨0, sq_u [] [], rfl, rfl, pq_B.of ht hP9 hD9⟩, hS.F ht⟩) hS.2.2 dX10_isSound_90
def wq_X10_ask_4_r1 : List Cond := [Cond.fieldLink RX10 105 "CodePress" "tapeSize" "I", Cond.code yX10_startText cX10_startText 2 (some .int), Cond.fieldLink RX10 23 "CodePress" "code" "LCodePress$Code;", Cond.fieldLink RX10 112 "CodePress$Code" "known" "I", Cond.code yX1_startHalf cX1_startHalf 2 none, Cond.fieldLink RX1 44 "CodePress$Code" "used" "I", Cond.fieldLink RX1 40 "CodePress$Code" "limit" "I", Cond.methodLink RX10 191 yX1_startHalf, Cond.instanceMethod yX1_startHalf, Cond.selects RX1 yX1_startHalf yX1_startHalf, Cond.initialized RX1, Cond.fieldLink RX10 16 "CodePress" "types" "LCodePress$Types;", Cond.code yX8_startHalf cX8_startHalf 2 none, Cond.fieldLink RX8 28 "CodePress$Types" "used" "I", Cond.fieldLink RX8 32 "CodePress$Types" "limit" "I", Cond.methodLink RX10 194 yX8_startHalf, Cond.instanceMethod yX8_startHalf, Cond.selects RX8 yX8_startHalf yX8_startHalf, Cond.initialized RX8, Cond.fieldLink RX10 195 "CodePress$Code" "used" "I", Cond.methodLink RX10 115 yX10_startText, Cond.instanceMethod yX10_startText, Cond.selects RX10 yX10_startText yX10_startText, Cond.initialized RX10]
def wq_X10_ask_4_r2 : List Cond := [Cond.fieldLink RX10 51 "CodePress" "parser" "LCodePress$Parser;", Cond.code yX5_readQuestion cX5_readQuestion 2 none, Cond.code yX5_start cX5_start 2 none, Cond.fieldLink RX5 49 "CodePress$Parser" "tokens" "I", Cond.fieldLink RX5 52 "CodePress$Parser" "open" "I", Cond.fieldLink RX5 55 "CodePress$Parser" "fault" "I", Cond.fieldLink RX5 58 "CodePress$Parser" "place" "I", Cond.fieldLink RX5 9 "CodePress$Parser" "lexer" "LCodePress$Lexer;", Cond.code yX2_read cX2_read 3 none, Cond.fieldLink RX2 28 "CodePress$Lexer" "text" "[B", Cond.methodLink RX2 44 Lib.Math.min.name, Cond.static Lib.Math.min.name, Cond.initialized "java/lang/Math", Cond.code Lib.Math.min.name Lib.Math.min.code 2 (some .int), Cond.fieldLink RX2 50 "CodePress$Lexer" "size" "I", Cond.fieldLink RX2 54 "CodePress$Lexer" "pos" "I", Cond.fieldLink RX2 57 "CodePress$Lexer" "kind" "I", Cond.code yX2_next cX2_next 1 none, Cond.fieldLink RX2 63 "CodePress$Lexer" "at" "I", Cond.methodLink RX2 60 yX2_next, Cond.instanceMethod yX2_next, Cond.selects RX2 yX2_next yX2_next, Cond.initialized RX2, Cond.fieldLink RX2 15 "CodePress$Lexer" "kinds" "[I"]
def wq_X10_ask_4_r3 : List Cond := [Cond.fieldLink RX2 19 "CodePress$Lexer" "places" "[I", Cond.fieldLink RX2 22 "CodePress$Lexer" "numbers" "[I", Cond.fieldLink RX2 66 "CodePress$Lexer" "number" "I", Cond.fieldLink RX2 25 "CodePress$Lexer" "names" "[J", Cond.fieldLink RX2 69 "CodePress$Lexer" "name" "J", Cond.methodLink RX5 61 yX2_read, Cond.instanceMethod yX2_read, Cond.selects RX2 yX2_read yX2_read, Cond.fieldLink RX5 64 "CodePress$Lexer" "kinds" "[I", Cond.fieldLink RX5 27 "CodePress$Parser" "kind" "I", Cond.fieldLink RX5 68 "CodePress$Lexer" "places" "[I", Cond.fieldLink RX5 71 "CodePress$Parser" "at" "I", Cond.methodLink RX5 23 yX5_start, Cond.instanceMethod yX5_start, Cond.selects RX5 yX5_start yX5_start, Cond.initialized RX5, Cond.code yX5_readE cX5_readE 1 none, Cond.code yX5_readC cX5_readC 14 none, Cond.fieldLink RX5 15 "CodePress$Parser" "code" "LCodePress$Code;", Cond.fieldLink RX5 154 "CodePress$Code" "used" "I", Cond.code yX5_readA cX5_readA 4 none, Cond.code yX5_readU cX5_readU 1 none, Cond.code yX5_fail cX5_fail 2 none, Cond.methodLink RX5 37 yX5_fail]
def wq_X10_ask_4_r4 : List Cond := [Cond.instanceMethod yX5_fail, Cond.selects RX5 yX5_fail yX5_fail, Cond.methodLink RX5 171 yX5_readU, Cond.instanceMethod yX5_readU, Cond.selects RX5 yX5_readU yX5_readU, Cond.code yX5_beginsU cX5_beginsU 1 (some .boolean), Cond.methodLink RX5 174 yX5_beginsU, Cond.instanceMethod yX5_beginsU, Cond.selects RX5 yX5_beginsU yX5_beginsU, Cond.methodLink RX5 164 yX5_readA, Cond.instanceMethod yX5_readA, Cond.selects RX5 yX5_readA yX5_readA, Cond.code yX5_joinSign cX5_joinSign 5 none, Cond.methodLink RX5 167 yX5_joinSign, Cond.instanceMethod yX5_joinSign, Cond.selects RX5 yX5_joinSign yX5_joinSign, Cond.methodLink RX5 151 yX5_readC, Cond.instanceMethod yX5_readC, Cond.selects RX5 yX5_readC yX5_readC, Cond.methodLink RX5 40 yX5_readE, Cond.instanceMethod yX5_readE, Cond.selects RX5 yX5_readE yX5_readE, Cond.code yX1_emit cX1_emit 4 (some .int), Cond.fieldLink RX1 11 "CodePress$Code" "op" "[I"]
def wq_X10_ask_4_r5 : List Cond := [Cond.fieldLink RX1 15 "CodePress$Code" "a" "[I", Cond.fieldLink RX1 18 "CodePress$Code" "b" "[I", Cond.fieldLink RX1 21 "CodePress$Code" "id" "[I", Cond.fieldLink RX1 24 "CodePress$Code" "at" "[I", Cond.fieldLink RX1 27 "CodePress$Code" "begins" "[I", Cond.fieldLink RX1 30 "CodePress$Code" "name" "[J", Cond.methodLink RX5 45 yX1_emit, Cond.instanceMethod yX1_emit, Cond.selects RX1 yX1_emit yX1_emit, Cond.methodLink RX10 132 yX5_readQuestion, Cond.instanceMethod yX5_readQuestion, Cond.selects RX5 yX5_readQuestion yX5_readQuestion, Cond.code yX10_isSound cX10_isSound 2 (some .boolean), Cond.fieldLink RX10 198 "CodePress$Parser" "fault" "I", Cond.fieldLink RX10 156 "CodePress" "faultKind" "I", Cond.fieldLink RX10 201 "CodePress$Parser" "place" "I", Cond.fieldLink RX10 101 "CodePress" "faultPlace" "I", Cond.methodLink RX10 125 yX10_isSound, Cond.instanceMethod yX10_isSound, Cond.selects RX10 yX10_isSound yX10_isSound]
def wq_X10_ask_4 : List Cond := Cond.code yX10_ask cX10_ask 6 (some .int) :: ((wq_X10_ask_4_r1 ++ (wq_X10_ask_4_r2 ++ (wq_X10_ask_4_r3 ++ (wq_X10_ask_4_r4 ++ wq_X10_ask_4_r5)))) ++ wsX100 ++ wsX10 ++ wsX80 ++ wsX50 ++ wsX20)
theorem iq_X10_ask_4_X10 : ∀ w ∈ wsX100, w ∈ wq_X10_ask_4 := fun _ h => List.mem_cons_of_mem _ (List.mem_append_left _ (List.mem_append_left _ (List.mem_append_left _ (List.mem_append_left _ (List.mem_append_right _ h)))))
theorem iq_X10_ask_4_X1 : ∀ w ∈ wsX10, w ∈ wq_X10_ask_4 := fun _ h => List.mem_cons_of_mem _ (List.mem_append_left _ (List.mem_append_left _ (List.mem_append_left _ (List.mem_append_right _ h))))
theorem iq_X10_ask_4_X8 : ∀ w ∈ wsX80, w ∈ wq_X10_ask_4 := fun _ h => List.mem_cons_of_mem _ (List.mem_append_left _ (List.mem_append_left _ (List.mem_append_right _ h)))
theorem iq_X10_ask_4_X5 : ∀ w ∈ wsX50, w ∈ wq_X10_ask_4 := fun _ h => List.mem_cons_of_mem _ (List.mem_append_left _ (List.mem_append_right _ h))
theorem iq_X10_ask_4_X2 : ∀ w ∈ wsX20, w ∈ wq_X10_ask_4 := fun _ h => List.mem_cons_of_mem _ (List.mem_append_right _ h)
set_option maxRecDepth 20000 in
theorem gq_X10_ask_4_X10_startText_115_0 : GoodIn wq_X10_ask_4 (Cond.code yX10_startText cX10_startText 2 (some .int) :: wq_X10_startText_r1) := goodIn_r _ [2, 3, 4, 5, 6, 7, 8, 9, 10, 11, 12, 13, 14, 15, 16, 17, 18, 19, 20] (by decide +kernel) (by decide +kernel)
set_option maxRecDepth 20000 in
theorem gq_X10_ask_4_X10_startText_115 : GoodIn wq_X10_ask_4 (wsV RX10 115 RX10 yX10_startText wq_X10_startText) := goodIn_app (goodIn_r _ [21, 22, 23, 24] (by decide +kernel) (by decide +kernel)) (goodIn_ca (goodIn_ca (goodIn_ca gq_X10_ask_4_X10_startText_115_0 (goodIn_sub iq_X10_ask_4_X10 guX10)) (goodIn_sub iq_X10_ask_4_X1 guX1)) (goodIn_sub iq_X10_ask_4_X8 guX8))
set_option maxRecDepth 20000 in
theorem gq_X10_ask_4_X5_readQuestion_132_0 : GoodIn wq_X10_ask_4 (Cond.code yX5_readQuestion cX5_readQuestion 2 none :: (wq_X5_readQuestion_r1 ++ (wq_X5_readQuestion_r2 ++ (wq_X5_readQuestion_r3 ++ wq_X5_readQuestion_r4)))) := goodIn_r _ [26, 27, 28, 29, 30, 31, 32, 33, 34, 35, 36, 37, 38, 39, 40, 41, 42, 43, 44, 45, 46, 47, 48, 49, 50, 51, 52, 53, 54, 55, 56, 57, 58, 59, 60, 61, 62, 63, 64, 65, 66, 67, 68, 69, 70, 71, 72, 73, 74, 75, 76, 77, 78, 79, 80, 81, 82, 83, 84, 85, 86, 87, 88, 89, 90, 91, 92, 93, 94, 95, 6, 7, 96, 97, 98, 99, 100, 101, 102, 103, 104, 105, 11] (by decide +kernel) (by decide +kernel)
set_option maxRecDepth 20000 in
theorem gq_X10_ask_4_X5_readQuestion_132 : GoodIn wq_X10_ask_4 (wsV RX10 132 RX5 yX5_readQuestion wq_X5_readQuestion) := goodIn_app (goodIn_r _ [106, 107, 108, 64] (by decide +kernel) (by decide +kernel)) (goodIn_ca (goodIn_ca (goodIn_ca gq_X10_ask_4_X5_readQuestion_132_0 (goodIn_sub iq_X10_ask_4_X5 guX5)) (goodIn_sub iq_X10_ask_4_X2 guX2)) (goodIn_sub iq_X10_ask_4_X1 guX1))
set_option maxRecDepth 20000 in
theorem gq_X10_ask_4_X10_isSound_1_125_0 : GoodIn wq_X10_ask_4 (Cond.code yX10_isSound cX10_isSound 2 (some .boolean) :: wq_X10_isSound_1_r1) := goodIn_r _ [109, 25, 110, 111, 112, 113] (by decide +kernel) (by decide +kernel)
set_option maxRecDepth 20000 in
theorem gq_X10_ask_4_X10_isSound_1_125 : GoodIn wq_X10_ask_4 (wsV RX10 125 RX10 yX10_isSound wq_X10_isSound_1) := goodIn_app (goodIn_r _ [114, 115, 116, 24] (by decide +kernel) (by decide +kernel)) (goodIn_ca (goodIn_ca gq_X10_ask_4_X10_isSound_1_125_0 (goodIn_sub iq_X10_ask_4_X10 guX10)) (goodIn_sub iq_X10_ask_4_X5 guX5))
set_option maxHeartbeats 4000000 in
set_option maxRecDepth 100000 in
theorem cq_X10_ask_4 (l : Launch) (dC : Nat → ClassId) (dI : Nat → Nat → Nat) (cB cI cJ cZ : ClassId) (h0 : Nat) (fa0 : Nat → Nat) (x0 : Int32) (x1 : Int32) (sz : Nat) (k1 : ¬ x0 < 0) (k2 : x0 ≤ 500) (k3 : ¬ 500 < x0) : Met l yX10_ask wq_X10_ask_4 ({ frames := 6, cells := 0, slots := 0, locals := 138 }) (va_Pc [.ref h0, .int 0, .int x0, .int x1] (pq_W (dC, dI) vwCl (tyQ cB cI cJ cZ) [(h0, .inr (10, [.ref (fa0 0), .ref (fa0 1), .ref (fa0 2), .ref (fa0 20), .ref (fa0 21), .ref (fa0 16), .ref (fa0 17), .ref (fa0 22), .ref (fa0 23), .ref (fa0 18), .ref (fa0 24), .ref (fa0 25), .ref (fa0 19), .int 0, .int 0, .int (-1), .int 0, .int 0, .int 0])), ((fa0 2), .inr (1, [.ref (fa0 3), .ref (fa0 4), .ref (fa0 5), .ref (fa0 6), .ref (fa0 7), .ref (fa0 8), .ref (fa0 9), .ref (fa0 31), .ref (fa0 10), .int 0, .int 1700, .int 0])), ((fa0 1), .inr (8, [.ref (fa0 26), .ref (fa0 27), .ref (fa0 28), .ref (fa0 29), .ref (fa0 30), .int 2, .int 1802])), ((fa0 16), .inr (5, [.ref (fa0 11), .ref (fa0 2), .ref (fa0 1), .int 0, .int 0, .int 0, .int 0, .int 0, .int 0, .long 0, .int 0])), ((fa0 11), .inr (2, [.ref (fa0 0), .ref (fa0 32), .ref (fa0 12), .ref (fa0 13), .ref (fa0 14), .ref (fa0 15), .int 0, .int 0, .int 0, .int 0, .int 0, .long 0])), ((fa0 0), .inl (cB, 3000, .inl (fun _ => 0))), ((fa0 12), .inl (cI, 801, .inl (fun _ => 0))), ((fa0 13), .inl (cI, 801, .inl (fun _ => 0))), ((fa0 14), .inl (cI, 801, .inl (fun _ => 0))), ((fa0 15), .inl (cJ, 801, .inr (.inl (fun _ => 0)))), ((fa0 3), .inl (cI, 4610, .inl (fun _ => 0))), ((fa0 4), .inl (cI, 4610, .inl (fun _ => 0))), ((fa0 5), .inl (cI, 4610, .inl (fun _ => 0))), ((fa0 6), .inl (cI, 4610, .inl (fun _ => 0))), ((fa0 7), .inl (cI, 4610, .inl (fun _ => 0))), ((fa0 8), .inl (cI, 4610, .inl (fun _ => 0))), ((fa0 9), .inl (cJ, 4610, .inr (.inl (fun _ => 0))))] sz)) (va_Qi (fun (r : Int32) (_ : SQ) => r = (-1)) (fun u => pq_B (dC, dI) vwCl [((fa0 1), .inr (8, [.ref (fa0 26), .ref (fa0 27), .ref (fa0 28), .ref (fa0 29), .ref (fa0 30), .int 1802, .int 3602])), ((fa0 0), .inl (cB, 3000, .inl (fun _ => 0))), ((fa0 12), .inl (cI, 801, .inl (upd (fun _ => 0) 0 260))), ((fa0 13), .inl (cI, 801, .inl (upd (fun _ => 0) 0 0))), ((fa0 14), .inl (cI, 801, .inl (upd (fun _ => 0) 0 0))), ((fa0 15), .inl (cJ, 801, .inr (.inl (vp_updL (fun _ => 0) 0 0)))), ((fa0 11), .inr (2, [.ref (fa0 0), .ref (fa0 32), .ref (fa0 12), .ref (fa0 13), .ref (fa0 14), .ref (fa0 15), .int 0, .int 0, .int 260, .int 0, .int 0, .long 0])), ((fa0 2), .inr (1, [.ref (fa0 3), .ref (fa0 4), .ref (fa0 5), .ref (fa0 6), .ref (fa0 7), .ref (fa0 8), .ref (fa0 9), .ref (fa0 31), .ref (fa0 10), .int 1701, .int 3400, .int 0])), ((fa0 3), .inl (cI, 4610, .inl (upd (fun _ => 0) 1700 13))), ((fa0 4), .inl (cI, 4610, .inl (upd (fun _ => 0) 1700 0))), ((fa0 5), .inl (cI, 4610, .inl (upd (fun _ => 0) 1700 0))), ((fa0 6), .inl (cI, 4610, .inl (upd (fun _ => 0) 1700 1700))), ((fa0 7), .inl (cI, 4610, .inl (upd (fun _ => 0) 1700 0))), ((fa0 8), .inl (cI, 4610, .inl (upd (fun _ => 0) 1700 0))), ((fa0 9), .inl (cJ, 4610, .inr (.inl (vp_updL (fun _ => 0) 1700 0)))), (h0, .inr (10, [.ref (fa0 0), .ref (fa0 1), .ref (fa0 2), .ref (fa0 20), .ref (fa0 21), .ref (fa0 16), .ref (fa0 17), .ref (fa0 22), .ref (fa0 23), .ref (fa0 18), .ref (fa0 24), .ref (fa0 25), .ref (fa0 19), .int 0, .int 1, .int 0, .int 0, .int 0, .int 0])), ((fa0 16), .inr (5, [.ref (fa0 11), .ref (fa0 2), .ref (fa0 1), .int 0, .int (-1), .int 0, .int 0, .int 1, .int 0, .long 0, .int 0]))] (va_A [(h0, .inr (10, [.ref (fa0 0), .ref (fa0 1), .ref (fa0 2), .ref (fa0 20), .ref (fa0 21), .ref (fa0 16), .ref (fa0 17), .ref (fa0 22), .ref (fa0 23), .ref (fa0 18), .ref (fa0 24), .ref (fa0 25), .ref (fa0 19), .int 0, .int 0, .int (-1), .int 0, .int 0, .int 0])), ((fa0 2), .inr (1, [.ref (fa0 3), .ref (fa0 4), .ref (fa0 5), .ref (fa0 6), .ref (fa0 7), .ref (fa0 8), .ref (fa0 9), .ref (fa0 31), .ref (fa0 10), .int 0, .int 1700, .int 0])), ((fa0 1), .inr (8, [.ref (fa0 26), .ref (fa0 27), .ref (fa0 28), .ref (fa0 29), .ref (fa0 30), .int 2, .int 1802])), ((fa0 16), .inr (5, [.ref (fa0 11), .ref (fa0 2), .ref (fa0 1), .int 0, .int 0, .int 0, .int 0, .int 0, .int 0, .long 0, .int 0])), ((fa0 11), .inr (2, [.ref (fa0 0), .ref (fa0 32), .ref (fa0 12), .ref (fa0 13), .ref (fa0 14), .ref (fa0 15), .int 0, .int 0, .int 0, .int 0, .int 0, .long 0])), ((fa0 0), .inl (cB, 3000, .inl (fun _ => 0))), ((fa0 12), .inl (cI, 801, .inl (fun _ => 0))), ((fa0 13), .inl (cI, 801, .inl (fun _ => 0))), ((fa0 14), .inl (cI, 801, .inl (fun _ => 0))), ((fa0 15), .inl (cJ, 801, .inr (.inl (fun _ => 0)))), ((fa0 3), .inl (cI, 4610, .inl (fun _ => 0))), ((fa0 4), .inl (cI, 4610, .inl (fun _ => 0))), ((fa0 5), .inl (cI, 4610, .inl (fun _ => 0))), ((fa0 6), .inl (cI, 4610, .inl (fun _ => 0))), ((fa0 7), .inl (cI, 4610, .inl (fun _ => 0))), ((fa0 8), .inl (cI, 4610, .inl (fun _ => 0))), ((fa0 9), .inl (cJ, 4610, .inr (.inl (fun _ => 0))))] sz)) (va_A [(h0, .inr (10, [.ref (fa0 0), .ref (fa0 1), .ref (fa0 2), .ref (fa0 20), .ref (fa0 21), .ref (fa0 16), .ref (fa0 17), .ref (fa0 22), .ref (fa0 23), .ref (fa0 18), .ref (fa0 24), .ref (fa0 25), .ref (fa0 19), .int 0, .int 0, .int (-1), .int 0, .int 0, .int 0])), ((fa0 2), .inr (1, [.ref (fa0 3), .ref (fa0 4), .ref (fa0 5), .ref (fa0 6), .ref (fa0 7), .ref (fa0 8), .ref (fa0 9), .ref (fa0 31), .ref (fa0 10), .int 0, .int 1700, .int 0])), ((fa0 1), .inr (8, [.ref (fa0 26), .ref (fa0 27), .ref (fa0 28), .ref (fa0 29), .ref (fa0 30), .int 2, .int 1802])), ((fa0 16), .inr (5, [.ref (fa0 11), .ref (fa0 2), .ref (fa0 1), .int 0, .int 0, .int 0, .int 0, .int 0, .int 0, .long 0, .int 0])), ((fa0 11), .inr (2, [.ref (fa0 0), .ref (fa0 32), .ref (fa0 12), .ref (fa0 13), .ref (fa0 14), .ref (fa0 15), .int 0, .int 0, .int 0, .int 0, .int 0, .long 0])), ((fa0 0), .inl (cB, 3000, .inl (fun _ => 0))), ((fa0 12), .inl (cI, 801, .inl (fun _ => 0))), ((fa0 13), .inl (cI, 801, .inl (fun _ => 0))), ((fa0 14), .inl (cI, 801, .inl (fun _ => 0))), ((fa0 15), .inl (cJ, 801, .inr (.inl (fun _ => 0)))), ((fa0 3), .inl (cI, 4610, .inl (fun _ => 0))), ((fa0 4), .inl (cI, 4610, .inl (fun _ => 0))), ((fa0 5), .inl (cI, 4610, .inl (fun _ => 0))), ((fa0 6), .inl (cI, 4610, .inl (fun _ => 0))), ((fa0 7), .inl (cI, 4610, .inl (fun _ => 0))), ((fa0 8), .inl (cI, 4610, .inl (fun _ => 0))), ((fa0 9), .inl (cJ, 4610, .inr (.inl (fun _ => 0))))] sz)) 0 0 (va_A [(h0, .inr (10, [.ref (fa0 0), .ref (fa0 1), .ref (fa0 2), .ref (fa0 20), .ref (fa0 21), .ref (fa0 16), .ref (fa0 17), .ref (fa0 22), .ref (fa0 23), .ref (fa0 18), .ref (fa0 24), .ref (fa0 25), .ref (fa0 19), .int 0, .int 0, .int (-1), .int 0, .int 0, .int 0])), ((fa0 2), .inr (1, [.ref (fa0 3), .ref (fa0 4), .ref (fa0 5), .ref (fa0 6), .ref (fa0 7), .ref (fa0 8), .ref (fa0 9), .ref (fa0 31), .ref (fa0 10), .int 0, .int 1700, .int 0])), ((fa0 1), .inr (8, [.ref (fa0 26), .ref (fa0 27), .ref (fa0 28), .ref (fa0 29), .ref (fa0 30), .int 2, .int 1802])), ((fa0 16), .inr (5, [.ref (fa0 11), .ref (fa0 2), .ref (fa0 1), .int 0, .int 0, .int 0, .int 0, .int 0, .int 0, .long 0, .int 0])), ((fa0 11), .inr (2, [.ref (fa0 0), .ref (fa0 32), .ref (fa0 12), .ref (fa0 13), .ref (fa0 14), .ref (fa0 15), .int 0, .int 0, .int 0, .int 0, .int 0, .long 0])), ((fa0 0), .inl (cB, 3000, .inl (fun _ => 0))), ((fa0 12), .inl (cI, 801, .inl (fun _ => 0))), ((fa0 13), .inl (cI, 801, .inl (fun _ => 0))), ((fa0 14), .inl (cI, 801, .inl (fun _ => 0))), ((fa0 15), .inl (cJ, 801, .inr (.inl (fun _ => 0)))), ((fa0 3), .inl (cI, 4610, .inl (fun _ => 0))), ((fa0 4), .inl (cI, 4610, .inl (fun _ => 0))), ((fa0 5), .inl (cI, 4610, .inl (fun _ => 0))), ((fa0 6), .inl (cI, 4610, .inl (fun _ => 0))), ((fa0 7), .inl (cI, 4610, .inl (fun _ => 0))), ((fa0 8), .inl (cI, 4610, .inl (fun _ => 0))), ((fa0 9), .inl (cJ, 4610, .inr (.inl (fun _ => 0))))] sz) := by
  refine Met.ofW (cc := cX10_ask) (maxL := 6) (ret := (some .int)) (by decide) rfl ?_
  intro p e s m args below meth c s₁ B hml hv
  obtain ⟨rfl, hsz, hP, hK, hD0⟩ := hv
  have hx := B.exec
  have hb := B.bytes
  have hr := B.returns
  have hts := atoms_spec (ws := wq_X10_ask_4) B.pre
  have hown : s.vm.findClass RX10 = some m.cls := findClass_of_methodNamed B.named
  have hlocks := B.notSynchronized
  subst hsz
  have hD := hD0.self (sz := s.heap.size)
  generalize hAe : va_A [(h0, .inr (10, [.ref (fa0 0), .ref (fa0 1), .ref (fa0 2), .ref (fa0 20), .ref (fa0 21), .ref (fa0 16), .ref (fa0 17), .ref (fa0 22), .ref (fa0 23), .ref (fa0 18), .ref (fa0 24), .ref (fa0 25), .ref (fa0 19), .int 0, .int 0, .int (-1), .int 0, .int 0, .int 0])), ((fa0 2), .inr (1, [.ref (fa0 3), .ref (fa0 4), .ref (fa0 5), .ref (fa0 6), .ref (fa0 7), .ref (fa0 8), .ref (fa0 9), .ref (fa0 31), .ref (fa0 10), .int 0, .int 1700, .int 0])), ((fa0 1), .inr (8, [.ref (fa0 26), .ref (fa0 27), .ref (fa0 28), .ref (fa0 29), .ref (fa0 30), .int 2, .int 1802])), ((fa0 16), .inr (5, [.ref (fa0 11), .ref (fa0 2), .ref (fa0 1), .int 0, .int 0, .int 0, .int 0, .int 0, .int 0, .long 0, .int 0])), ((fa0 11), .inr (2, [.ref (fa0 0), .ref (fa0 32), .ref (fa0 12), .ref (fa0 13), .ref (fa0 14), .ref (fa0 15), .int 0, .int 0, .int 0, .int 0, .int 0, .long 0])), ((fa0 0), .inl (cB, 3000, .inl (fun _ => 0))), ((fa0 12), .inl (cI, 801, .inl (fun _ => 0))), ((fa0 13), .inl (cI, 801, .inl (fun _ => 0))), ((fa0 14), .inl (cI, 801, .inl (fun _ => 0))), ((fa0 15), .inl (cJ, 801, .inr (.inl (fun _ => 0)))), ((fa0 3), .inl (cI, 4610, .inl (fun _ => 0))), ((fa0 4), .inl (cI, 4610, .inl (fun _ => 0))), ((fa0 5), .inl (cI, 4610, .inl (fun _ => 0))), ((fa0 6), .inl (cI, 4610, .inl (fun _ => 0))), ((fa0 7), .inl (cI, 4610, .inl (fun _ => 0))), ((fa0 8), .inl (cI, 4610, .inl (fun _ => 0))), ((fa0 9), .inl (cJ, 4610, .inr (.inl (fun _ => 0))))] s.heap.size = A at hD ⊢
  have hA : ∀ q : Nat, s.heap.size ≤ q → A q := fun q h => by rw [← hAe]; exact Or.inr h
  have hS : va_S A s.heap s.heap [] := va_S.rf
  have hP : va_P (dC, dI) vwCl [(h0, .inr (10, [.ref (fa0 0), .ref (fa0 1), .ref (fa0 2), .ref (fa0 20), .ref (fa0 21), .ref (fa0 16), .ref (fa0 17), .ref (fa0 22), .ref (fa0 23), .ref (fa0 18), .ref (fa0 24), .ref (fa0 25), .ref (fa0 19), .int 0, .int 0, .int (-1), .int 0, .int 0, .int 0])), ((fa0 2), .inr (1, [.ref (fa0 3), .ref (fa0 4), .ref (fa0 5), .ref (fa0 6), .ref (fa0 7), .ref (fa0 8), .ref (fa0 9), .ref (fa0 31), .ref (fa0 10), .int 0, .int 1700, .int 0])), ((fa0 1), .inr (8, [.ref (fa0 26), .ref (fa0 27), .ref (fa0 28), .ref (fa0 29), .ref (fa0 30), .int 2, .int 1802])), ((fa0 16), .inr (5, [.ref (fa0 11), .ref (fa0 2), .ref (fa0 1), .int 0, .int 0, .int 0, .int 0, .int 0, .int 0, .long 0, .int 0])), ((fa0 11), .inr (2, [.ref (fa0 0), .ref (fa0 32), .ref (fa0 12), .ref (fa0 13), .ref (fa0 14), .ref (fa0 15), .int 0, .int 0, .int 0, .int 0, .int 0, .long 0])), ((fa0 0), .inl (cB, 3000, .inl (fun _ => 0))), ((fa0 12), .inl (cI, 801, .inl (fun _ => 0))), ((fa0 13), .inl (cI, 801, .inl (fun _ => 0))), ((fa0 14), .inl (cI, 801, .inl (fun _ => 0))), ((fa0 15), .inl (cJ, 801, .inr (.inl (fun _ => 0)))), ((fa0 3), .inl (cI, 4610, .inl (fun _ => 0))), ((fa0 4), .inl (cI, 4610, .inl (fun _ => 0))), ((fa0 5), .inl (cI, 4610, .inl (fun _ => 0))), ((fa0 6), .inl (cI, 4610, .inl (fun _ => 0))), ((fa0 7), .inl (cI, 4610, .inl (fun _ => 0))), ((fa0 8), .inl (cI, 4610, .inl (fun _ => 0))), ((fa0 9), .inl (cJ, 4610, .inr (.inl (fun _ => 0))))] s.heap := hP
  obtain ⟨H, hH⟩ : ∃ H, H = s.heap := ⟨_, rfl⟩
  rw [← hH] at hP
  have hS : va_S A s.heap H [] := by rw [hH]; exact hS
  have hl := lv_entry ([.ref h0, .int 0, .int x0, .int x1]) (n := 6) (Nat.le_of_ble_eq_true rfl)
  rw [lg_entry_eq]
  generalize (lg_sl ([.ref h0, .int 0, .int x0, .int x1]) ++ List.replicate (6 - (lg_sl ([.ref h0, .int 0, .int x0, .int x1])).length) Slot.unset).toArray = ls at hl ⊢
  have hl : lv_has ls 6 [(0, .ref h0), (1, .int 0), (2, .int x0), (3, .int x1)] := hl
  refine pq_heap hH ?_
  refine lv_iload_n hx hb dX10_ask_0 rfl (lv_at hl 1 rfl) ?_
  refine lv_if_lt (tgt := 23) hx hb dX10_ask_1 (by decide) (fun c_ => absurd c_ (by decide)) (fun _ => ?_)
  refine lv_iload_n hx hb dX10_ask_4 rfl (lv_at hl 1 rfl) ?_
  refine lv_aload_n hx hb dX10_ask_5 rfl (lv_at hl 0 rfl) ?_
  refine va_get (D := (dC, dI)) (ci := 10) (v := .int 0) (C := RX10) (T := TX10) (N := 19) hx hb hts iq_X10_ask_4_X10 hown hK hP 0 rfl rfl 13 (by decide) (hts (Cond.fieldLink RX10 105 "CodePress" "tapeSize" "I") (List.mem_of_getElem? (i := 1) rfl)) (fun _ h9 => h9) rfl dX10_ask_6 ?_
  refine lv_icmp_gt (tgt := 23) hx hb dX10_ask_9 (by decide) (fun c_ => absurd c_ (by decide)) (fun _ => ?_)
  refine lv_iload_n hx hb dX10_ask_12 rfl (lv_at hl 2 rfl) ?_
  refine lv_if_lt (tgt := 23) hx hb dX10_ask_13 (by decide) (fun c_ => absurd c_ k1) (fun _ => ?_)
  refine lv_iload_n hx hb dX10_ask_16 rfl (lv_at hl 2 rfl) ?_
  refine lv_sipush (v := 500) hx hb dX10_ask_17 (by decide) ?_
  refine lv_icmp_le (tgt := 26) hx hb dX10_ask_20 (by decide) (fun _ => ?_) (fun c_ => absurd k2 c_)
  refine lv_aload_n hx hb dX10_ask_26 rfl (lv_at hl 0 rfl) ?_
  refine lv_iconst (v := 0) hx hb dX10_ask_27 (by decide) ?_
  refine va_put (D := (dC, dI)) (ci := 10) (v := .int 0) (ty := .int) (C := RX10) (T := TX10) (N := 19) hx hb hts iq_X10_ask_4_X10 tyX10 tyX10_ok nmX10 hown hK hP hD hS 0 rfl rfl 13 (by decide) (hts (Cond.fieldLink RX10 105 "CodePress" "tapeSize" "I") (List.mem_of_getElem? (i := 1) rfl)) (fun _ h9 => h9) rfl (by decide +kernel) rfl rfl (Nat.le_of_ble_eq_true rfl) dX10_ask_28 (fun H locs hP hD hS => ?_)
  have hR9 : pq_R (dC, dI) vwCl A [(h0, .inr (10, [.ref (fa0 0), .ref (fa0 1), .ref (fa0 2), .ref (fa0 20), .ref (fa0 21), .ref (fa0 16), .ref (fa0 17), .ref (fa0 22), .ref (fa0 23), .ref (fa0 18), .ref (fa0 24), .ref (fa0 25), .ref (fa0 19), .int 0, .int 0, .int (-1), .int 0, .int 0, .int 0])), ((fa0 2), .inr (1, [.ref (fa0 3), .ref (fa0 4), .ref (fa0 5), .ref (fa0 6), .ref (fa0 7), .ref (fa0 8), .ref (fa0 9), .ref (fa0 31), .ref (fa0 10), .int 0, .int 1700, .int 0])), ((fa0 1), .inr (8, [.ref (fa0 26), .ref (fa0 27), .ref (fa0 28), .ref (fa0 29), .ref (fa0 30), .int 2, .int 1802])), ((fa0 16), .inr (5, [.ref (fa0 11), .ref (fa0 2), .ref (fa0 1), .int 0, .int 0, .int 0, .int 0, .int 0, .int 0, .long 0, .int 0])), ((fa0 11), .inr (2, [.ref (fa0 0), .ref (fa0 32), .ref (fa0 12), .ref (fa0 13), .ref (fa0 14), .ref (fa0 15), .int 0, .int 0, .int 0, .int 0, .int 0, .long 0])), ((fa0 0), .inl (cB, 3000, .inl (fun _ => 0))), ((fa0 12), .inl (cI, 801, .inl (fun _ => 0))), ((fa0 13), .inl (cI, 801, .inl (fun _ => 0))), ((fa0 14), .inl (cI, 801, .inl (fun _ => 0))), ((fa0 15), .inl (cJ, 801, .inr (.inl (fun _ => 0)))), ((fa0 3), .inl (cI, 4610, .inl (fun _ => 0))), ((fa0 4), .inl (cI, 4610, .inl (fun _ => 0))), ((fa0 5), .inl (cI, 4610, .inl (fun _ => 0))), ((fa0 6), .inl (cI, 4610, .inl (fun _ => 0))), ((fa0 7), .inl (cI, 4610, .inl (fun _ => 0))), ((fa0 8), .inl (cI, 4610, .inl (fun _ => 0))), ((fa0 9), .inl (cJ, 4610, .inr (.inl (fun _ => 0))))] H := ⟨hP, hD⟩
  have hP := hR9.1
  have hD := hR9.2
  refine lv_aload_n hx hb dX10_ask_31 rfl (lv_at hl 0 rfl) ?_
  refine pq_ci (wr := [((fa0 16), .inr (5, [.ref (fa0 11), .ref (fa0 2), .ref (fa0 1), .int 0, .int 0, .int 0, .int 0, .int 0, .int 0, .long 0, .int 0])), ((fa0 11), .inr (2, [.ref (fa0 0), .ref (fa0 32), .ref (fa0 12), .ref (fa0 13), .ref (fa0 14), .ref (fa0 15), .int 0, .int 0, .int 0, .int 0, .int 0, .long 0])), ((fa0 0), .inl (cB, 3000, .inl (fun _ => 0))), ((fa0 12), .inl (cI, 801, .inl (fun _ => 0))), ((fa0 13), .inl (cI, 801, .inl (fun _ => 0))), ((fa0 14), .inl (cI, 801, .inl (fun _ => 0))), ((fa0 15), .inl (cJ, 801, .inr (.inl (fun _ => 0)))), ((fa0 3), .inl (cI, 4610, .inl (fun _ => 0))), ((fa0 4), .inl (cI, 4610, .inl (fun _ => 0))), ((fa0 5), .inl (cI, 4610, .inl (fun _ => 0))), ((fa0 6), .inl (cI, 4610, .inl (fun _ => 0))), ((fa0 7), .inl (cI, 4610, .inl (fun _ => 0))), ((fa0 8), .inl (cI, 4610, .inl (fun _ => 0))), ((fa0 9), .inl (cJ, 4610, .inr (.inl (fun _ => 0))))]) (W1 := (fun u => [(h0, .inr (10, [.ref (fa0 0), .ref (fa0 1), .ref (fa0 2), .ref (fa0 20), .ref (fa0 21), .ref (fa0 16), .ref (fa0 17), .ref (fa0 22), .ref (fa0 23), .ref (fa0 18), .ref (fa0 24), .ref (fa0 25), .ref (fa0 19), .int 0, .int 0, .int (-1), .int 0, .int 0, .int 0])), ((fa0 2), .inr (1, [.ref (fa0 3), .ref (fa0 4), .ref (fa0 5), .ref (fa0 6), .ref (fa0 7), .ref (fa0 8), .ref (fa0 9), .ref (fa0 31), .ref (fa0 10), .int 1700, .int 3400, .int 0])), ((fa0 1), .inr (8, [.ref (fa0 26), .ref (fa0 27), .ref (fa0 28), .ref (fa0 29), .ref (fa0 30), .int 1802, .int 3602]))])) (va_runV (As := []) (rest := []) ⟨hx, hb, hml, hown, hts⟩ (cq_X10_startText l dC dI cB cI cJ cZ h0 fa0 H.size) (cwV 0 hts gq_X10_ask_4_X10_startText_115 rfl rfl rfl (by decide +kernel) ⟨(by decide +kernel), (by decide +kernel)⟩) ⟨pq_blind, va_recv hK hP (ci := 10) (q0 := 0) rfl rfl, pq_pre hK hP hD [0, 1, 2] rfl rfl⟩ rfl rfl hl.1 rfl (lv_room (Nat.le_of_ble_eq_true rfl)) dX10_ask_32 ⟨(by decide +kernel), (by decide +kernel)⟩) hP hD hS hA [0, 1, 2] [3, 4, 5, 6, 7, 8, 9, 10, 11, 12, 13, 14, 15, 16] rfl rfl rfl (by decide) (fun r2 u1 H locs hw hP hD hS => ?_)
  subst hw
  have hR9 : pq_R (dC, dI) vwCl A [((fa0 16), .inr (5, [.ref (fa0 11), .ref (fa0 2), .ref (fa0 1), .int 0, .int 0, .int 0, .int 0, .int 0, .int 0, .long 0, .int 0])), ((fa0 11), .inr (2, [.ref (fa0 0), .ref (fa0 32), .ref (fa0 12), .ref (fa0 13), .ref (fa0 14), .ref (fa0 15), .int 0, .int 0, .int 0, .int 0, .int 0, .long 0])), ((fa0 0), .inl (cB, 3000, .inl (fun _ => 0))), ((fa0 12), .inl (cI, 801, .inl (fun _ => 0))), ((fa0 13), .inl (cI, 801, .inl (fun _ => 0))), ((fa0 14), .inl (cI, 801, .inl (fun _ => 0))), ((fa0 15), .inl (cJ, 801, .inr (.inl (fun _ => 0)))), ((fa0 3), .inl (cI, 4610, .inl (fun _ => 0))), ((fa0 4), .inl (cI, 4610, .inl (fun _ => 0))), ((fa0 5), .inl (cI, 4610, .inl (fun _ => 0))), ((fa0 6), .inl (cI, 4610, .inl (fun _ => 0))), ((fa0 7), .inl (cI, 4610, .inl (fun _ => 0))), ((fa0 8), .inl (cI, 4610, .inl (fun _ => 0))), ((fa0 9), .inl (cJ, 4610, .inr (.inl (fun _ => 0)))), (h0, .inr (10, [.ref (fa0 0), .ref (fa0 1), .ref (fa0 2), .ref (fa0 20), .ref (fa0 21), .ref (fa0 16), .ref (fa0 17), .ref (fa0 22), .ref (fa0 23), .ref (fa0 18), .ref (fa0 24), .ref (fa0 25), .ref (fa0 19), .int 0, .int 0, .int (-1), .int 0, .int 0, .int 0])), ((fa0 2), .inr (1, [.ref (fa0 3), .ref (fa0 4), .ref (fa0 5), .ref (fa0 6), .ref (fa0 7), .ref (fa0 8), .ref (fa0 9), .ref (fa0 31), .ref (fa0 10), .int 1700, .int 3400, .int 0])), ((fa0 1), .inr (8, [.ref (fa0 26), .ref (fa0 27), .ref (fa0 28), .ref (fa0 29), .ref (fa0 30), .int 1802, .int 3602]))] H := ⟨hP, hD⟩
  have hP := hR9.1
  have hD := hR9.2
  refine W.widen (k := 0) (n := 0) (by decide +kernel) (by decide +kernel) ?_
  refine lv_istore (lv' := [(4, .int 1700), (0, .ref h0), (1, .int 0), (2, .int x0), (3, .int x1)]) hx hb dX10_ask_35 hl (by decide) rfl (fun ls hl => ?_)
  refine lv_aload_n hx hb dX10_ask_37 rfl (lv_at hl 1 rfl) ?_
  refine va_get (D := (dC, dI)) (ci := 10) (v := .ref (fa0 16)) (C := RX10) (T := TX10) (N := 19) hx hb hts iq_X10_ask_4_X10 hown hK hP 14 rfl rfl 5 (by decide) (hts (Cond.fieldLink RX10 51 "CodePress" "parser" "LCodePress$Parser;") (List.mem_of_getElem? (i := 25) rfl)) (fun _ h9 => h9) rfl dX10_ask_38 ?_
  refine lv_iload_n hx hb dX10_ask_41 rfl (lv_at hl 2 rfl) ?_
  refine pq_cv (wr := [(h0, .inr (10, [.ref (fa0 0), .ref (fa0 1), .ref (fa0 2), .ref (fa0 20), .ref (fa0 21), .ref (fa0 16), .ref (fa0 17), .ref (fa0 22), .ref (fa0 23), .ref (fa0 18), .ref (fa0 24), .ref (fa0 25), .ref (fa0 19), .int 0, .int 0, .int (-1), .int 0, .int 0, .int 0])), ((fa0 1), .inr (8, [.ref (fa0 26), .ref (fa0 27), .ref (fa0 28), .ref (fa0 29), .ref (fa0 30), .int 1802, .int 3602]))]) (W1 := (fun u => [((fa0 0), .inl (cB, 3000, .inl (fun _ => 0))), ((fa0 12), .inl (cI, 801, .inl (upd (fun _ => 0) 0 260))), ((fa0 13), .inl (cI, 801, .inl (upd (fun _ => 0) 0 0))), ((fa0 14), .inl (cI, 801, .inl (upd (fun _ => 0) 0 0))), ((fa0 15), .inl (cJ, 801, .inr (.inl (vp_updL (fun _ => 0) 0 0)))), ((fa0 11), .inr (2, [.ref (fa0 0), .ref (fa0 32), .ref (fa0 12), .ref (fa0 13), .ref (fa0 14), .ref (fa0 15), .int 0, .int 0, .int 260, .int 0, .int 0, .long 0])), ((fa0 16), .inr (5, [.ref (fa0 11), .ref (fa0 2), .ref (fa0 1), .int 0, .int (-1), .int 0, .int 0, .int 1, .int 0, .long 0, .int 0])), ((fa0 2), .inr (1, [.ref (fa0 3), .ref (fa0 4), .ref (fa0 5), .ref (fa0 6), .ref (fa0 7), .ref (fa0 8), .ref (fa0 9), .ref (fa0 31), .ref (fa0 10), .int 1701, .int 3400, .int 0])), ((fa0 3), .inl (cI, 4610, .inl (upd (fun _ => 0) 1700 13))), ((fa0 4), .inl (cI, 4610, .inl (upd (fun _ => 0) 1700 0))), ((fa0 5), .inl (cI, 4610, .inl (upd (fun _ => 0) 1700 0))), ((fa0 6), .inl (cI, 4610, .inl (upd (fun _ => 0) 1700 1700))), ((fa0 7), .inl (cI, 4610, .inl (upd (fun _ => 0) 1700 0))), ((fa0 8), .inl (cI, 4610, .inl (upd (fun _ => 0) 1700 0))), ((fa0 9), .inl (cJ, 4610, .inr (.inl (vp_updL (fun _ => 0) 1700 0))))])) (va_runV (As := [.int 0]) (rest := []) ⟨hx, hb, hml, hown, hts⟩ (cq_X5_readQuestion l dC dI cB cI cJ cZ fa0 H.size) (cwV 1 hts gq_X10_ask_4_X5_readQuestion_132 rfl rfl rfl (by decide +kernel) ⟨(by decide +kernel), (by decide +kernel)⟩) ⟨pq_blind, va_recv hK hP (ci := 5) (q0 := 0) rfl rfl, pq_pre hK hP hD [0, 1, 2, 3, 4, 5, 6, 15, 7, 8, 9, 10, 11, 12, 13] rfl rfl⟩ rfl rfl hl.1 rfl (lv_room (Nat.le_of_ble_eq_true rfl)) dX10_ask_42 ⟨(by decide +kernel), (by decide +kernel)⟩) hP hD hS hA [0, 1, 2, 3, 4, 5, 6, 15, 7, 8, 9, 10, 11, 12, 13] [14, 16] rfl rfl rfl (by decide) (fun u3 H locs hw hP hD hS => ?_)
  have hR9 : pq_R (dC, dI) vwCl A [(h0, .inr (10, [.ref (fa0 0), .ref (fa0 1), .ref (fa0 2), .ref (fa0 20), .ref (fa0 21), .ref (fa0 16), .ref (fa0 17), .ref (fa0 22), .ref (fa0 23), .ref (fa0 18), .ref (fa0 24), .ref (fa0 25), .ref (fa0 19), .int 0, .int 0, .int (-1), .int 0, .int 0, .int 0])), ((fa0 1), .inr (8, [.ref (fa0 26), .ref (fa0 27), .ref (fa0 28), .ref (fa0 29), .ref (fa0 30), .int 1802, .int 3602])), ((fa0 0), .inl (cB, 3000, .inl (fun _ => 0))), ((fa0 12), .inl (cI, 801, .inl (upd (fun _ => 0) 0 260))), ((fa0 13), .inl (cI, 801, .inl (upd (fun _ => 0) 0 0))), ((fa0 14), .inl (cI, 801, .inl (upd (fun _ => 0) 0 0))), ((fa0 15), .inl (cJ, 801, .inr (.inl (vp_updL (fun _ => 0) 0 0)))), ((fa0 11), .inr (2, [.ref (fa0 0), .ref (fa0 32), .ref (fa0 12), .ref (fa0 13), .ref (fa0 14), .ref (fa0 15), .int 0, .int 0, .int 260, .int 0, .int 0, .long 0])), ((fa0 16), .inr (5, [.ref (fa0 11), .ref (fa0 2), .ref (fa0 1), .int 0, .int (-1), .int 0, .int 0, .int 1, .int 0, .long 0, .int 0])), ((fa0 2), .inr (1, [.ref (fa0 3), .ref (fa0 4), .ref (fa0 5), .ref (fa0 6), .ref (fa0 7), .ref (fa0 8), .ref (fa0 9), .ref (fa0 31), .ref (fa0 10), .int 1701, .int 3400, .int 0])), ((fa0 3), .inl (cI, 4610, .inl (upd (fun _ => 0) 1700 13))), ((fa0 4), .inl (cI, 4610, .inl (upd (fun _ => 0) 1700 0))), ((fa0 5), .inl (cI, 4610, .inl (upd (fun _ => 0) 1700 0))), ((fa0 6), .inl (cI, 4610, .inl (upd (fun _ => 0) 1700 1700))), ((fa0 7), .inl (cI, 4610, .inl (upd (fun _ => 0) 1700 0))), ((fa0 8), .inl (cI, 4610, .inl (upd (fun _ => 0) 1700 0))), ((fa0 9), .inl (cJ, 4610, .inr (.inl (vp_updL (fun _ => 0) 1700 0))))] H := ⟨hP, hD⟩
  have hP := hR9.1
  have hD := hR9.2
  refine W.widen (k := 0) (n := 0) (by decide +kernel) (by decide +kernel) ?_
  refine lv_aload_n hx hb dX10_ask_45 rfl (lv_at hl 1 rfl) ?_
  refine lv_iload hx hb dX10_ask_46 (lv_at hl 0 rfl) ?_
  refine pq_ci (wr := [((fa0 1), .inr (8, [.ref (fa0 26), .ref (fa0 27), .ref (fa0 28), .ref (fa0 29), .ref (fa0 30), .int 1802, .int 3602])), ((fa0 0), .inl (cB, 3000, .inl (fun _ => 0))), ((fa0 12), .inl (cI, 801, .inl (upd (fun _ => 0) 0 260))), ((fa0 13), .inl (cI, 801, .inl (upd (fun _ => 0) 0 0))), ((fa0 14), .inl (cI, 801, .inl (upd (fun _ => 0) 0 0))), ((fa0 15), .inl (cJ, 801, .inr (.inl (vp_updL (fun _ => 0) 0 0)))), ((fa0 11), .inr (2, [.ref (fa0 0), .ref (fa0 32), .ref (fa0 12), .ref (fa0 13), .ref (fa0 14), .ref (fa0 15), .int 0, .int 0, .int 260, .int 0, .int 0, .long 0])), ((fa0 2), .inr (1, [.ref (fa0 3), .ref (fa0 4), .ref (fa0 5), .ref (fa0 6), .ref (fa0 7), .ref (fa0 8), .ref (fa0 9), .ref (fa0 31), .ref (fa0 10), .int 1701, .int 3400, .int 0])), ((fa0 3), .inl (cI, 4610, .inl (upd (fun _ => 0) 1700 13))), ((fa0 4), .inl (cI, 4610, .inl (upd (fun _ => 0) 1700 0))), ((fa0 5), .inl (cI, 4610, .inl (upd (fun _ => 0) 1700 0))), ((fa0 6), .inl (cI, 4610, .inl (upd (fun _ => 0) 1700 1700))), ((fa0 7), .inl (cI, 4610, .inl (upd (fun _ => 0) 1700 0))), ((fa0 8), .inl (cI, 4610, .inl (upd (fun _ => 0) 1700 0))), ((fa0 9), .inl (cJ, 4610, .inr (.inl (vp_updL (fun _ => 0) 1700 0))))]) (W1 := (fun u => [(h0, .inr (10, [.ref (fa0 0), .ref (fa0 1), .ref (fa0 2), .ref (fa0 20), .ref (fa0 21), .ref (fa0 16), .ref (fa0 17), .ref (fa0 22), .ref (fa0 23), .ref (fa0 18), .ref (fa0 24), .ref (fa0 25), .ref (fa0 19), .int 0, .int 1, .int 0, .int 0, .int 0, .int 0])), ((fa0 16), .inr (5, [.ref (fa0 11), .ref (fa0 2), .ref (fa0 1), .int 0, .int (-1), .int 0, .int 0, .int 1, .int 0, .long 0, .int 0]))])) (va_runV (As := [.int 1700]) (rest := []) ⟨hx, hb, hml, hown, hts⟩ (cq_X10_isSound_1 l dC dI cB cI cJ cZ h0 fa0 H.size) (cwV 1 hts gq_X10_ask_4_X10_isSound_1_125 rfl rfl rfl (by decide +kernel) ⟨(by decide +kernel), (by decide +kernel)⟩) ⟨pq_blind, va_recv hK hP (ci := 10) (q0 := 0) rfl rfl, pq_pre hK hP hD [0, 8] rfl rfl⟩ rfl rfl hl.1 rfl (lv_room (Nat.le_of_ble_eq_true rfl)) dX10_ask_48 ⟨(by decide +kernel), (by decide +kernel)⟩) hP hD hS hA [0, 8] [1, 2, 3, 4, 5, 6, 7, 9, 10, 11, 12, 13, 14, 15, 16] rfl rfl rfl (by decide) (fun r5 u4 H locs hw hP hD hS => ?_)
  subst hw
  have hR9 : pq_R (dC, dI) vwCl A [((fa0 1), .inr (8, [.ref (fa0 26), .ref (fa0 27), .ref (fa0 28), .ref (fa0 29), .ref (fa0 30), .int 1802, .int 3602])), ((fa0 0), .inl (cB, 3000, .inl (fun _ => 0))), ((fa0 12), .inl (cI, 801, .inl (upd (fun _ => 0) 0 260))), ((fa0 13), .inl (cI, 801, .inl (upd (fun _ => 0) 0 0))), ((fa0 14), .inl (cI, 801, .inl (upd (fun _ => 0) 0 0))), ((fa0 15), .inl (cJ, 801, .inr (.inl (vp_updL (fun _ => 0) 0 0)))), ((fa0 11), .inr (2, [.ref (fa0 0), .ref (fa0 32), .ref (fa0 12), .ref (fa0 13), .ref (fa0 14), .ref (fa0 15), .int 0, .int 0, .int 260, .int 0, .int 0, .long 0])), ((fa0 2), .inr (1, [.ref (fa0 3), .ref (fa0 4), .ref (fa0 5), .ref (fa0 6), .ref (fa0 7), .ref (fa0 8), .ref (fa0 9), .ref (fa0 31), .ref (fa0 10), .int 1701, .int 3400, .int 0])), ((fa0 3), .inl (cI, 4610, .inl (upd (fun _ => 0) 1700 13))), ((fa0 4), .inl (cI, 4610, .inl (upd (fun _ => 0) 1700 0))), ((fa0 5), .inl (cI, 4610, .inl (upd (fun _ => 0) 1700 0))), ((fa0 6), .inl (cI, 4610, .inl (upd (fun _ => 0) 1700 1700))), ((fa0 7), .inl (cI, 4610, .inl (upd (fun _ => 0) 1700 0))), ((fa0 8), .inl (cI, 4610, .inl (upd (fun _ => 0) 1700 0))), ((fa0 9), .inl (cJ, 4610, .inr (.inl (vp_updL (fun _ => 0) 1700 0)))), (h0, .inr (10, [.ref (fa0 0), .ref (fa0 1), .ref (fa0 2), .ref (fa0 20), .ref (fa0 21), .ref (fa0 16), .ref (fa0 17), .ref (fa0 22), .ref (fa0 23), .ref (fa0 18), .ref (fa0 24), .ref (fa0 25), .ref (fa0 19), .int 0, .int 1, .int 0, .int 0, .int 0, .int 0])), ((fa0 16), .inr (5, [.ref (fa0 11), .ref (fa0 2), .ref (fa0 1), .int 0, .int (-1), .int 0, .int 0, .int 1, .int 0, .long 0, .int 0]))] H := ⟨hP, hD⟩
  have hP := hR9.1
  have hD := hR9.2
  refine W.widen (k := 0) (n := 0) (by decide +kernel) (by decide +kernel) ?_
  refine lv_if_ne (tgt := 56) hx hb dX10_ask_51 (by decide) (fun c_ => absurd (by decide) c_) (fun _ => ?_)
  refine lv_iconst (v := (-1)) hx hb dX10_ask_54 (by decide) ?_
  have hP9 := pq_P.pick (wc := [((fa0 1), .inr (8, [.ref (fa0 26), .ref (fa0 27), .ref (fa0 28), .ref (fa0 29), .ref (fa0 30), .int 1802, .int 3602])), ((fa0 0), .inl (cB, 3000, .inl (fun _ => 0))), ((fa0 12), .inl (cI, 801, .inl (upd (fun _ => 0) 0 260))), ((fa0 13), .inl (cI, 801, .inl (upd (fun _ => 0) 0 0))), ((fa0 14), .inl (cI, 801, .inl (upd (fun _ => 0) 0 0))), ((fa0 15), .inl (cJ, 801, .inr (.inl (vp_updL (fun _ => 0) 0 0)))), ((fa0 11), .inr (2, [.ref (fa0 0), .ref (fa0 32), .ref (fa0 12), .ref (fa0 13), .ref (fa0 14), .ref (fa0 15), .int 0, .int 0, .int 260, .int 0, .int 0, .long 0])), ((fa0 2), .inr (1, [.ref (fa0 3), .ref (fa0 4), .ref (fa0 5), .ref (fa0 6), .ref (fa0 7), .ref (fa0 8), .ref (fa0 9), .ref (fa0 31), .ref (fa0 10), .int 1701, .int 3400, .int 0])), ((fa0 3), .inl (cI, 4610, .inl (upd (fun _ => 0) 1700 13))), ((fa0 4), .inl (cI, 4610, .inl (upd (fun _ => 0) 1700 0))), ((fa0 5), .inl (cI, 4610, .inl (upd (fun _ => 0) 1700 0))), ((fa0 6), .inl (cI, 4610, .inl (upd (fun _ => 0) 1700 1700))), ((fa0 7), .inl (cI, 4610, .inl (upd (fun _ => 0) 1700 0))), ((fa0 8), .inl (cI, 4610, .inl (upd (fun _ => 0) 1700 0))), ((fa0 9), .inl (cJ, 4610, .inr (.inl (vp_updL (fun _ => 0) 1700 0)))), (h0, .inr (10, [.ref (fa0 0), .ref (fa0 1), .ref (fa0 2), .ref (fa0 20), .ref (fa0 21), .ref (fa0 16), .ref (fa0 17), .ref (fa0 22), .ref (fa0 23), .ref (fa0 18), .ref (fa0 24), .ref (fa0 25), .ref (fa0 19), .int 0, .int 1, .int 0, .int 0, .int 0, .int 0])), ((fa0 16), .inr (5, [.ref (fa0 11), .ref (fa0 2), .ref (fa0 1), .int 0, .int (-1), .int 0, .int 0, .int 1, .int 0, .long 0, .int 0]))]) hP [0, 1, 2, 3, 4, 5, 6, 7, 8, 9, 10, 11, 12, 13, 14, 15, 16] rfl
  have hD9 := hD.sub (ws' := [((fa0 1), .inr (8, [.ref (fa0 26), .ref (fa0 27), .ref (fa0 28), .ref (fa0 29), .ref (fa0 30), .int 1802, .int 3602])), ((fa0 0), .inl (cB, 3000, .inl (fun _ => 0))), ((fa0 12), .inl (cI, 801, .inl (upd (fun _ => 0) 0 260))), ((fa0 13), .inl (cI, 801, .inl (upd (fun _ => 0) 0 0))), ((fa0 14), .inl (cI, 801, .inl (upd (fun _ => 0) 0 0))), ((fa0 15), .inl (cJ, 801, .inr (.inl (vp_updL (fun _ => 0) 0 0)))), ((fa0 11), .inr (2, [.ref (fa0 0), .ref (fa0 32), .ref (fa0 12), .ref (fa0 13), .ref (fa0 14), .ref (fa0 15), .int 0, .int 0, .int 260, .int 0, .int 0, .long 0])), ((fa0 2), .inr (1, [.ref (fa0 3), .ref (fa0 4), .ref (fa0 5), .ref (fa0 6), .ref (fa0 7), .ref (fa0 8), .ref (fa0 9), .ref (fa0 31), .ref (fa0 10), .int 1701, .int 3400, .int 0])), ((fa0 3), .inl (cI, 4610, .inl (upd (fun _ => 0) 1700 13))), ((fa0 4), .inl (cI, 4610, .inl (upd (fun _ => 0) 1700 0))), ((fa0 5), .inl (cI, 4610, .inl (upd (fun _ => 0) 1700 0))), ((fa0 6), .inl (cI, 4610, .inl (upd (fun _ => 0) 1700 1700))), ((fa0 7), .inl (cI, 4610, .inl (upd (fun _ => 0) 1700 0))), ((fa0 8), .inl (cI, 4610, .inl (upd (fun _ => 0) 1700 0))), ((fa0 9), .inl (cJ, 4610, .inr (.inl (vp_updL (fun _ => 0) 1700 0)))), (h0, .inr (10, [.ref (fa0 0), .ref (fa0 1), .ref (fa0 2), .ref (fa0 20), .ref (fa0 21), .ref (fa0 16), .ref (fa0 17), .ref (fa0 22), .ref (fa0 23), .ref (fa0 18), .ref (fa0 24), .ref (fa0 25), .ref (fa0 19), .int 0, .int 1, .int 0, .int 0, .int 0, .int 0])), ((fa0 16), .inr (5, [.ref (fa0 11), .ref (fa0 2), .ref (fa0 1), .int 0, .int (-1), .int 0, .int 0, .int 1, .int 0, .long 0, .int 0]))]) [0, 1, 2, 3, 4, 5, 6, 7, 8, 9, 10, 11, 12, 13, 14, 15, 16] (by decide) rfl
  refine W.widen (k := 0) (n := 0) (by decide +kernel) (by decide +kernel) ?_
  exact W.iret (v := (-1)) hx hb hr (fun t ht hW => ⟨⟨(-1), sq_u [] [], rfl, rfl, pq_B.of ht hP9 hD9⟩, hS.F ht⟩) hS.2.2 dX10_ask_55
def wq_X10_fault_r1 : List Cond := [Cond.fieldLink RX10 156 "CodePress" "faultKind" "I"]
def wq_X10_fault : List Cond := Cond.code yX10_fault cX10_fault 2 (some .int) :: (wq_X10_fault_r1 ++ wsX100)
theorem iq_X10_fault_X10 : ∀ w ∈ wsX100, w ∈ wq_X10_fault := fun _ h => List.mem_cons_of_mem _ (List.mem_append_right _ h)
set_option maxHeartbeats 4000000 in
set_option maxRecDepth 100000 in
theorem cq_X10_fault (l : Launch) (dC : Nat → ClassId) (dI : Nat → Nat → Nat) (cB cI cJ cZ : ClassId) (h0 : Nat) (fa0 : Nat → Nat) (sz : Nat) : Met l yX10_fault wq_X10_fault ({ frames := 0, cells := 0, slots := 0, locals := 0 }) (va_Pc [.ref h0, .int 0] (pq_W (dC, dI) vwCl (tyQ cB cI cJ cZ) [(h0, .inr (10, [.ref (fa0 0), .ref (fa0 1), .ref (fa0 2), .ref (fa0 20), .ref (fa0 21), .ref (fa0 16), .ref (fa0 17), .ref (fa0 22), .ref (fa0 23), .ref (fa0 18), .ref (fa0 24), .ref (fa0 25), .ref (fa0 19), .int 0, .int 0, .int (-1), .int 0, .int 0, .int 0]))] sz)) (va_Qi (fun (r : Int32) (_ : SQ) => r = 0) (fun u => pq_B (dC, dI) vwCl [(h0, .inr (10, [.ref (fa0 0), .ref (fa0 1), .ref (fa0 2), .ref (fa0 20), .ref (fa0 21), .ref (fa0 16), .ref (fa0 17), .ref (fa0 22), .ref (fa0 23), .ref (fa0 18), .ref (fa0 24), .ref (fa0 25), .ref (fa0 19), .int 0, .int 0, .int (-1), .int 0, .int 0, .int 0]))] (va_A [(h0, .inr (10, [.ref (fa0 0), .ref (fa0 1), .ref (fa0 2), .ref (fa0 20), .ref (fa0 21), .ref (fa0 16), .ref (fa0 17), .ref (fa0 22), .ref (fa0 23), .ref (fa0 18), .ref (fa0 24), .ref (fa0 25), .ref (fa0 19), .int 0, .int 0, .int (-1), .int 0, .int 0, .int 0]))] sz)) (va_A [(h0, .inr (10, [.ref (fa0 0), .ref (fa0 1), .ref (fa0 2), .ref (fa0 20), .ref (fa0 21), .ref (fa0 16), .ref (fa0 17), .ref (fa0 22), .ref (fa0 23), .ref (fa0 18), .ref (fa0 24), .ref (fa0 25), .ref (fa0 19), .int 0, .int 0, .int (-1), .int 0, .int 0, .int 0]))] sz)) 0 0 (va_A [(h0, .inr (10, [.ref (fa0 0), .ref (fa0 1), .ref (fa0 2), .ref (fa0 20), .ref (fa0 21), .ref (fa0 16), .ref (fa0 17), .ref (fa0 22), .ref (fa0 23), .ref (fa0 18), .ref (fa0 24), .ref (fa0 25), .ref (fa0 19), .int 0, .int 0, .int (-1), .int 0, .int 0, .int 0]))] sz) := by
  refine Met.ofW (cc := cX10_fault) (maxL := 2) (ret := (some .int)) (by decide) rfl ?_
  intro p e s m args below meth c s₁ B hml hv
  obtain ⟨rfl, hsz, hP, hK, hD0⟩ := hv
  have hx := B.exec
  have hb := B.bytes
  have hr := B.returns
  have hts := atoms_spec (ws := wq_X10_fault) B.pre
  have hown : s.vm.findClass RX10 = some m.cls := findClass_of_methodNamed B.named
  have hlocks := B.notSynchronized
  subst hsz
  have hD := hD0.self (sz := s.heap.size)
  generalize hAe : va_A [(h0, .inr (10, [.ref (fa0 0), .ref (fa0 1), .ref (fa0 2), .ref (fa0 20), .ref (fa0 21), .ref (fa0 16), .ref (fa0 17), .ref (fa0 22), .ref (fa0 23), .ref (fa0 18), .ref (fa0 24), .ref (fa0 25), .ref (fa0 19), .int 0, .int 0, .int (-1), .int 0, .int 0, .int 0]))] s.heap.size = A at hD ⊢
  have hA : ∀ q : Nat, s.heap.size ≤ q → A q := fun q h => by rw [← hAe]; exact Or.inr h
  have hS : va_S A s.heap s.heap [] := va_S.rf
  have hP : va_P (dC, dI) vwCl [(h0, .inr (10, [.ref (fa0 0), .ref (fa0 1), .ref (fa0 2), .ref (fa0 20), .ref (fa0 21), .ref (fa0 16), .ref (fa0 17), .ref (fa0 22), .ref (fa0 23), .ref (fa0 18), .ref (fa0 24), .ref (fa0 25), .ref (fa0 19), .int 0, .int 0, .int (-1), .int 0, .int 0, .int 0]))] s.heap := hP
  obtain ⟨H, hH⟩ : ∃ H, H = s.heap := ⟨_, rfl⟩
  rw [← hH] at hP
  have hS : va_S A s.heap H [] := by rw [hH]; exact hS
  have hl := lv_entry ([.ref h0, .int 0]) (n := 2) (Nat.le_of_ble_eq_true rfl)
  rw [lg_entry_eq]
  generalize (lg_sl ([.ref h0, .int 0]) ++ List.replicate (2 - (lg_sl ([.ref h0, .int 0])).length) Slot.unset).toArray = ls at hl ⊢
  have hl : lv_has ls 2 [(0, .ref h0), (1, .int 0)] := hl
  refine pq_heap hH ?_
  refine lv_iload_n hx hb dX10_fault_0 rfl (lv_at hl 1 rfl) ?_
  refine lv_if_ne (tgt := 9) hx hb dX10_fault_1 (by decide) (fun c_ => absurd (by decide) c_) (fun _ => ?_)
  refine lv_aload_n hx hb dX10_fault_4 rfl (lv_at hl 0 rfl) ?_
  refine va_get (D := (dC, dI)) (ci := 10) (v := .int 0) (C := RX10) (T := TX10) (N := 19) hx hb hts iq_X10_fault_X10 hown hK hP 0 rfl rfl 14 (by decide) (hts (Cond.fieldLink RX10 156 "CodePress" "faultKind" "I") (List.mem_of_getElem? (i := 1) rfl)) (fun _ h9 => h9) rfl dX10_fault_5 ?_
  have hP9 := pq_P.pick (wc := [(h0, .inr (10, [.ref (fa0 0), .ref (fa0 1), .ref (fa0 2), .ref (fa0 20), .ref (fa0 21), .ref (fa0 16), .ref (fa0 17), .ref (fa0 22), .ref (fa0 23), .ref (fa0 18), .ref (fa0 24), .ref (fa0 25), .ref (fa0 19), .int 0, .int 0, .int (-1), .int 0, .int 0, .int 0]))]) hP [0] rfl
  have hD9 := hD.sub (ws' := [(h0, .inr (10, [.ref (fa0 0), .ref (fa0 1), .ref (fa0 2), .ref (fa0 20), .ref (fa0 21), .ref (fa0 16), .ref (fa0 17), .ref (fa0 22), .ref (fa0 23), .ref (fa0 18), .ref (fa0 24), .ref (fa0 25), .ref (fa0 19), .int 0, .int 0, .int (-1), .int 0, .int 0, .int 0]))]) [0] (by decide) rfl
  refine W.widen (k := 0) (n := 0) (by decide +kernel) (by decide +kernel) ?_
  exact W.iret (v := 0) hx hb hr (fun t ht hW => ⟨⟨0, sq_u [] [], rfl, rfl, pq_B.of ht hP9 hD9⟩, hS.F ht⟩) hS.2.2 dX10_fault_8
def wq_X10_fault_1_r1 : List Cond := [Cond.fieldLink RX10 101 "CodePress" "faultPlace" "I"]
def wq_X10_fault_1 : List Cond := Cond.code yX10_fault cX10_fault 2 (some .int) :: (wq_X10_fault_1_r1 ++ wsX100)
theorem iq_X10_fault_1_X10 : ∀ w ∈ wsX100, w ∈ wq_X10_fault_1 := fun _ h => List.mem_cons_of_mem _ (List.mem_append_right _ h)
set_option maxHeartbeats 4000000 in
set_option maxRecDepth 100000 in
theorem cq_X10_fault_1 (l : Launch) (dC : Nat → ClassId) (dI : Nat → Nat → Nat) (cB cI cJ cZ : ClassId) (h0 : Nat) (fa0 : Nat → Nat) (sz : Nat) : Met l yX10_fault wq_X10_fault_1 ({ frames := 0, cells := 0, slots := 0, locals := 0 }) (va_Pc [.ref h0, .int 1] (pq_W (dC, dI) vwCl (tyQ cB cI cJ cZ) [(h0, .inr (10, [.ref (fa0 0), .ref (fa0 1), .ref (fa0 2), .ref (fa0 20), .ref (fa0 21), .ref (fa0 16), .ref (fa0 17), .ref (fa0 22), .ref (fa0 23), .ref (fa0 18), .ref (fa0 24), .ref (fa0 25), .ref (fa0 19), .int 0, .int 0, .int (-1), .int 0, .int 0, .int 0]))] sz)) (va_Qi (fun (r : Int32) (_ : SQ) => r = (-1)) (fun u => pq_B (dC, dI) vwCl [(h0, .inr (10, [.ref (fa0 0), .ref (fa0 1), .ref (fa0 2), .ref (fa0 20), .ref (fa0 21), .ref (fa0 16), .ref (fa0 17), .ref (fa0 22), .ref (fa0 23), .ref (fa0 18), .ref (fa0 24), .ref (fa0 25), .ref (fa0 19), .int 0, .int 0, .int (-1), .int 0, .int 0, .int 0]))] (va_A [(h0, .inr (10, [.ref (fa0 0), .ref (fa0 1), .ref (fa0 2), .ref (fa0 20), .ref (fa0 21), .ref (fa0 16), .ref (fa0 17), .ref (fa0 22), .ref (fa0 23), .ref (fa0 18), .ref (fa0 24), .ref (fa0 25), .ref (fa0 19), .int 0, .int 0, .int (-1), .int 0, .int 0, .int 0]))] sz)) (va_A [(h0, .inr (10, [.ref (fa0 0), .ref (fa0 1), .ref (fa0 2), .ref (fa0 20), .ref (fa0 21), .ref (fa0 16), .ref (fa0 17), .ref (fa0 22), .ref (fa0 23), .ref (fa0 18), .ref (fa0 24), .ref (fa0 25), .ref (fa0 19), .int 0, .int 0, .int (-1), .int 0, .int 0, .int 0]))] sz)) 0 0 (va_A [(h0, .inr (10, [.ref (fa0 0), .ref (fa0 1), .ref (fa0 2), .ref (fa0 20), .ref (fa0 21), .ref (fa0 16), .ref (fa0 17), .ref (fa0 22), .ref (fa0 23), .ref (fa0 18), .ref (fa0 24), .ref (fa0 25), .ref (fa0 19), .int 0, .int 0, .int (-1), .int 0, .int 0, .int 0]))] sz) := by
  refine Met.ofW (cc := cX10_fault) (maxL := 2) (ret := (some .int)) (by decide) rfl ?_
  intro p e s m args below meth c s₁ B hml hv
  obtain ⟨rfl, hsz, hP, hK, hD0⟩ := hv
  have hx := B.exec
  have hb := B.bytes
  have hr := B.returns
  have hts := atoms_spec (ws := wq_X10_fault_1) B.pre
  have hown : s.vm.findClass RX10 = some m.cls := findClass_of_methodNamed B.named
  have hlocks := B.notSynchronized
  subst hsz
  have hD := hD0.self (sz := s.heap.size)
  generalize hAe : va_A [(h0, .inr (10, [.ref (fa0 0), .ref (fa0 1), .ref (fa0 2), .ref (fa0 20), .ref (fa0 21), .ref (fa0 16), .ref (fa0 17), .ref (fa0 22), .ref (fa0 23), .ref (fa0 18), .ref (fa0 24), .ref (fa0 25), .ref (fa0 19), .int 0, .int 0, .int (-1), .int 0, .int 0, .int 0]))] s.heap.size = A at hD ⊢
  have hA : ∀ q : Nat, s.heap.size ≤ q → A q := fun q h => by rw [← hAe]; exact Or.inr h
  have hS : va_S A s.heap s.heap [] := va_S.rf
  have hP : va_P (dC, dI) vwCl [(h0, .inr (10, [.ref (fa0 0), .ref (fa0 1), .ref (fa0 2), .ref (fa0 20), .ref (fa0 21), .ref (fa0 16), .ref (fa0 17), .ref (fa0 22), .ref (fa0 23), .ref (fa0 18), .ref (fa0 24), .ref (fa0 25), .ref (fa0 19), .int 0, .int 0, .int (-1), .int 0, .int 0, .int 0]))] s.heap := hP
  obtain ⟨H, hH⟩ : ∃ H, H = s.heap := ⟨_, rfl⟩
  rw [← hH] at hP
  have hS : va_S A s.heap H [] := by rw [hH]; exact hS
  have hl := lv_entry ([.ref h0, .int 1]) (n := 2) (Nat.le_of_ble_eq_true rfl)
  rw [lg_entry_eq]
  generalize (lg_sl ([.ref h0, .int 1]) ++ List.replicate (2 - (lg_sl ([.ref h0, .int 1])).length) Slot.unset).toArray = ls at hl ⊢
  have hl : lv_has ls 2 [(0, .ref h0), (1, .int 1)] := hl
  refine pq_heap hH ?_
  refine lv_iload_n hx hb dX10_fault_0 rfl (lv_at hl 1 rfl) ?_
  refine lv_if_ne (tgt := 9) hx hb dX10_fault_1 (by decide) (fun _ => ?_) (fun c_ => absurd c_ (by decide))
  refine lv_iload_n hx hb dX10_fault_9 rfl (lv_at hl 1 rfl) ?_
  refine lv_iconst (v := 1) hx hb dX10_fault_10 (by decide) ?_
  refine lv_icmp_ne (tgt := 21) hx hb dX10_fault_11 (by decide) (fun c_ => absurd (by decide) c_) (fun _ => ?_)
  refine lv_aload_n hx hb dX10_fault_14 rfl (lv_at hl 0 rfl) ?_
  refine va_get (D := (dC, dI)) (ci := 10) (v := .int (-1)) (C := RX10) (T := TX10) (N := 19) hx hb hts iq_X10_fault_1_X10 hown hK hP 0 rfl rfl 15 (by decide) (hts (Cond.fieldLink RX10 101 "CodePress" "faultPlace" "I") (List.mem_of_getElem? (i := 1) rfl)) (fun _ h9 => h9) rfl dX10_fault_15 ?_
  refine lv_goto (tgt := 22) hx hb dX10_fault_18 (by decide) ?_
  have hP9 := pq_P.pick (wc := [(h0, .inr (10, [.ref (fa0 0), .ref (fa0 1), .ref (fa0 2), .ref (fa0 20), .ref (fa0 21), .ref (fa0 16), .ref (fa0 17), .ref (fa0 22), .ref (fa0 23), .ref (fa0 18), .ref (fa0 24), .ref (fa0 25), .ref (fa0 19), .int 0, .int 0, .int (-1), .int 0, .int 0, .int 0]))]) hP [0] rfl
  have hD9 := hD.sub (ws' := [(h0, .inr (10, [.ref (fa0 0), .ref (fa0 1), .ref (fa0 2), .ref (fa0 20), .ref (fa0 21), .ref (fa0 16), .ref (fa0 17), .ref (fa0 22), .ref (fa0 23), .ref (fa0 18), .ref (fa0 24), .ref (fa0 25), .ref (fa0 19), .int 0, .int 0, .int (-1), .int 0, .int 0, .int 0]))]) [0] (by decide) rfl
  refine W.widen (k := 0) (n := 0) (by decide +kernel) (by decide +kernel) ?_
  exact W.iret (v := (-1)) hx hb hr (fun t ht hW => ⟨⟨(-1), sq_u [] [], rfl, rfl, pq_B.of ht hP9 hD9⟩, hS.F ht⟩) hS.2.2 dX10_fault_22
def wq_X10_fault_2 : List Cond := Cond.code yX10_fault cX10_fault 2 (some .int) :: (([] : List Cond))
set_option maxHeartbeats 4000000 in
set_option maxRecDepth 100000 in
theorem cq_X10_fault_2 (l : Launch) (dC : Nat → ClassId) (dI : Nat → Nat → Nat) (cB cI cJ cZ : ClassId) (a0 : Nat) (x0 : Int32) (sz : Nat) (k1 : ¬ x0 = 0) (k2 : ¬ x0 = 1) : Met l yX10_fault wq_X10_fault_2 ({ frames := 0, cells := 0, slots := 0, locals := 0 }) (va_Pc [.ref a0, .int x0] (pq_W (dC, dI) vwCl (tyQ cB cI cJ cZ) [] sz)) (va_Qi (fun (r : Int32) (_ : SQ) => r = (-1)) (fun u => pq_B (dC, dI) vwCl [] (va_A [] sz)) (va_A [] sz)) 0 0 (va_A [] sz) := by
  refine Met.ofW (cc := cX10_fault) (maxL := 2) (ret := (some .int)) (by decide) rfl ?_
  intro p e s m args below meth c s₁ B hml hv
  obtain ⟨rfl, hsz, hP, hK, hD0⟩ := hv
  have hx := B.exec
  have hb := B.bytes
  have hr := B.returns
  have hts := atoms_spec (ws := wq_X10_fault_2) B.pre
  have hown : s.vm.findClass RX10 = some m.cls := findClass_of_methodNamed B.named
  have hlocks := B.notSynchronized
  subst hsz
  have hD := hD0.self (sz := s.heap.size)
  generalize hAe : va_A [] s.heap.size = A at hD ⊢
  have hA : ∀ q : Nat, s.heap.size ≤ q → A q := fun q h => by rw [← hAe]; exact Or.inr h
  have hS : va_S A s.heap s.heap [] := va_S.rf
  have hP : va_P (dC, dI) vwCl [] s.heap := hP
  obtain ⟨H, hH⟩ : ∃ H, H = s.heap := ⟨_, rfl⟩
  rw [← hH] at hP
  have hS : va_S A s.heap H [] := by rw [hH]; exact hS
  have hl := lv_entry ([.ref a0, .int x0]) (n := 2) (Nat.le_of_ble_eq_true rfl)
  rw [lg_entry_eq]
  generalize (lg_sl ([.ref a0, .int x0]) ++ List.replicate (2 - (lg_sl ([.ref a0, .int x0])).length) Slot.unset).toArray = ls at hl ⊢
  have hl : lv_has ls 2 [(0, .ref a0), (1, .int x0)] := hl
  refine pq_heap hH ?_
  refine lv_iload_n hx hb dX10_fault_0 rfl (lv_at hl 1 rfl) ?_
  refine lv_if_ne (tgt := 9) hx hb dX10_fault_1 (by decide) (fun _ => ?_) (fun c_ => absurd c_ k1)
  refine lv_iload_n hx hb dX10_fault_9 rfl (lv_at hl 1 rfl) ?_
  refine lv_iconst (v := 1) hx hb dX10_fault_10 (by decide) ?_
  refine lv_icmp_ne (tgt := 21) hx hb dX10_fault_11 (by decide) (fun _ => ?_) (fun c_ => absurd c_ k2)
  refine lv_iconst (v := (-1)) hx hb dX10_fault_21 (by decide) ?_
  have hP9 := pq_P.pick (wc := []) hP [] rfl
  have hD9 := hD.sub (ws' := []) [] (by decide) rfl
  refine W.widen (k := 0) (n := 0) (by decide +kernel) (by decide +kernel) ?_
  exact W.iret (v := (-1)) hx hb hr (fun t ht hW => ⟨⟨(-1), sq_u [] [], rfl, rfl, pq_B.of ht hP9 hD9⟩, hS.F ht⟩) hS.2.2 dX10_fault_22
def wq_X10_told_r1 : List Cond := [Cond.fieldLink RX10 97 "CodePress" "tale" "[I"]
def wq_X10_told : List Cond := Cond.code yX10_told cX10_told 2 (some .int) :: (wq_X10_told_r1 ++ wsX100)
theorem iq_X10_told_X10 : ∀ w ∈ wsX100, w ∈ wq_X10_told := fun _ h => List.mem_cons_of_mem _ (List.mem_append_right _ h)
set_option maxHeartbeats 4000000 in
set_option maxRecDepth 100000 in
theorem cq_X10_told (l : Launch) (dC : Nat → ClassId) (dI : Nat → Nat → Nat) (cB cI cJ cZ : ClassId) (h0 : Nat) (fa0 : Nat → Nat) (sz : Nat) : Met l yX10_told wq_X10_told ({ frames := 0, cells := 0, slots := 0, locals := 0 }) (va_Pc [.ref h0, .int 0] (pq_W (dC, dI) vwCl (tyQ cB cI cJ cZ) [(h0, .inr (10, [.ref (fa0 0), .ref (fa0 1), .ref (fa0 2), .ref (fa0 20), .ref (fa0 21), .ref (fa0 16), .ref (fa0 17), .ref (fa0 22), .ref (fa0 23), .ref (fa0 18), .ref (fa0 24), .ref (fa0 25), .ref (fa0 19), .int 0, .int 0, .int (-1), .int 0, .int 0, .int 0])), ((fa0 19), .inl (cI, 8, .inl (upd (upd (upd (upd (upd (upd (upd (upd (fun _ => 0) 0 (-1)) 1 0) 2 0) 3 0) 4 (-1)) 5 0) 6 0) 7 0)))] sz)) (va_Qi (fun (r : Int32) (_ : SQ) => r = (-1)) (fun u => pq_B (dC, dI) vwCl [(h0, .inr (10, [.ref (fa0 0), .ref (fa0 1), .ref (fa0 2), .ref (fa0 20), .ref (fa0 21), .ref (fa0 16), .ref (fa0 17), .ref (fa0 22), .ref (fa0 23), .ref (fa0 18), .ref (fa0 24), .ref (fa0 25), .ref (fa0 19), .int 0, .int 0, .int (-1), .int 0, .int 0, .int 0])), ((fa0 19), .inl (cI, 8, .inl (upd (upd (upd (upd (upd (upd (upd (upd (fun _ => 0) 0 (-1)) 1 0) 2 0) 3 0) 4 (-1)) 5 0) 6 0) 7 0)))] (va_A [(h0, .inr (10, [.ref (fa0 0), .ref (fa0 1), .ref (fa0 2), .ref (fa0 20), .ref (fa0 21), .ref (fa0 16), .ref (fa0 17), .ref (fa0 22), .ref (fa0 23), .ref (fa0 18), .ref (fa0 24), .ref (fa0 25), .ref (fa0 19), .int 0, .int 0, .int (-1), .int 0, .int 0, .int 0])), ((fa0 19), .inl (cI, 8, .inl (upd (upd (upd (upd (upd (upd (upd (upd (fun _ => 0) 0 (-1)) 1 0) 2 0) 3 0) 4 (-1)) 5 0) 6 0) 7 0)))] sz)) (va_A [(h0, .inr (10, [.ref (fa0 0), .ref (fa0 1), .ref (fa0 2), .ref (fa0 20), .ref (fa0 21), .ref (fa0 16), .ref (fa0 17), .ref (fa0 22), .ref (fa0 23), .ref (fa0 18), .ref (fa0 24), .ref (fa0 25), .ref (fa0 19), .int 0, .int 0, .int (-1), .int 0, .int 0, .int 0])), ((fa0 19), .inl (cI, 8, .inl (upd (upd (upd (upd (upd (upd (upd (upd (fun _ => 0) 0 (-1)) 1 0) 2 0) 3 0) 4 (-1)) 5 0) 6 0) 7 0)))] sz)) 0 0 (va_A [(h0, .inr (10, [.ref (fa0 0), .ref (fa0 1), .ref (fa0 2), .ref (fa0 20), .ref (fa0 21), .ref (fa0 16), .ref (fa0 17), .ref (fa0 22), .ref (fa0 23), .ref (fa0 18), .ref (fa0 24), .ref (fa0 25), .ref (fa0 19), .int 0, .int 0, .int (-1), .int 0, .int 0, .int 0])), ((fa0 19), .inl (cI, 8, .inl (upd (upd (upd (upd (upd (upd (upd (upd (fun _ => 0) 0 (-1)) 1 0) 2 0) 3 0) 4 (-1)) 5 0) 6 0) 7 0)))] sz) := by
  refine Met.ofW (cc := cX10_told) (maxL := 2) (ret := (some .int)) (by decide) rfl ?_
  intro p e s m args below meth c s₁ B hml hv
  obtain ⟨rfl, hsz, hP, hK, hD0⟩ := hv
  have hx := B.exec
  have hb := B.bytes
  have hr := B.returns
  have hts := atoms_spec (ws := wq_X10_told) B.pre
  have hown : s.vm.findClass RX10 = some m.cls := findClass_of_methodNamed B.named
  have hlocks := B.notSynchronized
  subst hsz
  have hD := hD0.self (sz := s.heap.size)
  generalize hAe : va_A [(h0, .inr (10, [.ref (fa0 0), .ref (fa0 1), .ref (fa0 2), .ref (fa0 20), .ref (fa0 21), .ref (fa0 16), .ref (fa0 17), .ref (fa0 22), .ref (fa0 23), .ref (fa0 18), .ref (fa0 24), .ref (fa0 25), .ref (fa0 19), .int 0, .int 0, .int (-1), .int 0, .int 0, .int 0])), ((fa0 19), .inl (cI, 8, .inl (upd (upd (upd (upd (upd (upd (upd (upd (fun _ => 0) 0 (-1)) 1 0) 2 0) 3 0) 4 (-1)) 5 0) 6 0) 7 0)))] s.heap.size = A at hD ⊢
  have hA : ∀ q : Nat, s.heap.size ≤ q → A q := fun q h => by rw [← hAe]; exact Or.inr h
  have hS : va_S A s.heap s.heap [] := va_S.rf
  have hP : va_P (dC, dI) vwCl [(h0, .inr (10, [.ref (fa0 0), .ref (fa0 1), .ref (fa0 2), .ref (fa0 20), .ref (fa0 21), .ref (fa0 16), .ref (fa0 17), .ref (fa0 22), .ref (fa0 23), .ref (fa0 18), .ref (fa0 24), .ref (fa0 25), .ref (fa0 19), .int 0, .int 0, .int (-1), .int 0, .int 0, .int 0])), ((fa0 19), .inl (cI, 8, .inl (upd (upd (upd (upd (upd (upd (upd (upd (fun _ => 0) 0 (-1)) 1 0) 2 0) 3 0) 4 (-1)) 5 0) 6 0) 7 0)))] s.heap := hP
  obtain ⟨H, hH⟩ : ∃ H, H = s.heap := ⟨_, rfl⟩
  rw [← hH] at hP
  have hS : va_S A s.heap H [] := by rw [hH]; exact hS
  have hl := lv_entry ([.ref h0, .int 0]) (n := 2) (Nat.le_of_ble_eq_true rfl)
  rw [lg_entry_eq]
  generalize (lg_sl ([.ref h0, .int 0]) ++ List.replicate (2 - (lg_sl ([.ref h0, .int 0])).length) Slot.unset).toArray = ls at hl ⊢
  have hl : lv_has ls 2 [(0, .ref h0), (1, .int 0)] := hl
  refine pq_heap hH ?_
  refine lv_iload_n hx hb dX10_told_0 rfl (lv_at hl 1 rfl) ?_
  refine lv_if_lt (tgt := 22) hx hb dX10_told_1 (by decide) (fun c_ => absurd c_ (by decide)) (fun _ => ?_)
  refine lv_iload_n hx hb dX10_told_4 rfl (lv_at hl 1 rfl) ?_
  refine lv_aload_n hx hb dX10_told_5 rfl (lv_at hl 0 rfl) ?_
  refine va_get (D := (dC, dI)) (ci := 10) (v := .ref (fa0 19)) (C := RX10) (T := TX10) (N := 19) hx hb hts iq_X10_told_X10 hown hK hP 0 rfl rfl 12 (by decide) (hts (Cond.fieldLink RX10 97 "CodePress" "tale" "[I") (List.mem_of_getElem? (i := 1) rfl)) (fun _ h9 => h9) rfl dX10_told_6 ?_
  refine va_alen (v := 8) (ty := .int) hx hb hK hP 1 1 rfl rfl (by decide) dX10_told_9 ?_
  refine lv_icmp_ge (tgt := 22) hx hb dX10_told_10 (by decide) (fun c_ => absurd c_ (by decide)) (fun _ => ?_)
  refine lv_aload_n hx hb dX10_told_13 rfl (lv_at hl 0 rfl) ?_
  refine va_get (D := (dC, dI)) (ci := 10) (v := .ref (fa0 19)) (C := RX10) (T := TX10) (N := 19) hx hb hts iq_X10_told_X10 hown hK hP 0 rfl rfl 12 (by decide) (hts (Cond.fieldLink RX10 97 "CodePress" "tale" "[I") (List.mem_of_getElem? (i := 1) rfl)) (fun _ h9 => h9) rfl dX10_told_14 ?_
  refine lv_iload_n hx hb dX10_told_17 rfl (lv_at hl 1 rfl) ?_
  refine va_iald hx hb hK hP 1 1 rfl rfl (pq_in (by decide)) dX10_told_18 ?_
  refine lv_topi (fun x1 ex1 => ?_)
  obtain rfl : x1 = (-1) := ex1.trans (by decide)
  refine lv_goto (tgt := 23) hx hb dX10_told_19 (by decide) ?_
  have hP9 := pq_P.pick (wc := [(h0, .inr (10, [.ref (fa0 0), .ref (fa0 1), .ref (fa0 2), .ref (fa0 20), .ref (fa0 21), .ref (fa0 16), .ref (fa0 17), .ref (fa0 22), .ref (fa0 23), .ref (fa0 18), .ref (fa0 24), .ref (fa0 25), .ref (fa0 19), .int 0, .int 0, .int (-1), .int 0, .int 0, .int 0])), ((fa0 19), .inl (cI, 8, .inl (upd (upd (upd (upd (upd (upd (upd (upd (fun _ => 0) 0 (-1)) 1 0) 2 0) 3 0) 4 (-1)) 5 0) 6 0) 7 0)))]) hP [0, 1] rfl
  have hD9 := hD.sub (ws' := [(h0, .inr (10, [.ref (fa0 0), .ref (fa0 1), .ref (fa0 2), .ref (fa0 20), .ref (fa0 21), .ref (fa0 16), .ref (fa0 17), .ref (fa0 22), .ref (fa0 23), .ref (fa0 18), .ref (fa0 24), .ref (fa0 25), .ref (fa0 19), .int 0, .int 0, .int (-1), .int 0, .int 0, .int 0])), ((fa0 19), .inl (cI, 8, .inl (upd (upd (upd (upd (upd (upd (upd (upd (fun _ => 0) 0 (-1)) 1 0) 2 0) 3 0) 4 (-1)) 5 0) 6 0) 7 0)))]) [0, 1] (by decide) rfl
  refine W.widen (k := 0) (n := 0) (by decide +kernel) (by decide +kernel) ?_
  exact W.iret (v := (-1)) hx hb hr (fun t ht hW => ⟨⟨(-1), sq_u [] [], rfl, rfl, pq_B.of ht hP9 hD9⟩, hS.F ht⟩) hS.2.2 dX10_told_23
def wq_X10_told_1_r1 : List Cond := [Cond.fieldLink RX10 97 "CodePress" "tale" "[I"]
def wq_X10_told_1 : List Cond := Cond.code yX10_told cX10_told 2 (some .int) :: (wq_X10_told_1_r1 ++ wsX100)
theorem iq_X10_told_1_X10 : ∀ w ∈ wsX100, w ∈ wq_X10_told_1 := fun _ h => List.mem_cons_of_mem _ (List.mem_append_right _ h)
set_option maxHeartbeats 4000000 in
set_option maxRecDepth 100000 in
theorem cq_X10_told_1 (l : Launch) (dC : Nat → ClassId) (dI : Nat → Nat → Nat) (cB cI cJ cZ : ClassId) (h0 : Nat) (fa0 : Nat → Nat) (sz : Nat) : Met l yX10_told wq_X10_told_1 ({ frames := 0, cells := 0, slots := 0, locals := 0 }) (va_Pc [.ref h0, .int 1] (pq_W (dC, dI) vwCl (tyQ cB cI cJ cZ) [(h0, .inr (10, [.ref (fa0 0), .ref (fa0 1), .ref (fa0 2), .ref (fa0 20), .ref (fa0 21), .ref (fa0 16), .ref (fa0 17), .ref (fa0 22), .ref (fa0 23), .ref (fa0 18), .ref (fa0 24), .ref (fa0 25), .ref (fa0 19), .int 0, .int 0, .int (-1), .int 0, .int 0, .int 0])), ((fa0 19), .inl (cI, 8, .inl (upd (upd (upd (upd (upd (upd (upd (upd (fun _ => 0) 0 (-1)) 1 0) 2 0) 3 0) 4 (-1)) 5 0) 6 0) 7 0)))] sz)) (va_Qi (fun (r : Int32) (_ : SQ) => r = 0) (fun u => pq_B (dC, dI) vwCl [(h0, .inr (10, [.ref (fa0 0), .ref (fa0 1), .ref (fa0 2), .ref (fa0 20), .ref (fa0 21), .ref (fa0 16), .ref (fa0 17), .ref (fa0 22), .ref (fa0 23), .ref (fa0 18), .ref (fa0 24), .ref (fa0 25), .ref (fa0 19), .int 0, .int 0, .int (-1), .int 0, .int 0, .int 0])), ((fa0 19), .inl (cI, 8, .inl (upd (upd (upd (upd (upd (upd (upd (upd (fun _ => 0) 0 (-1)) 1 0) 2 0) 3 0) 4 (-1)) 5 0) 6 0) 7 0)))] (va_A [(h0, .inr (10, [.ref (fa0 0), .ref (fa0 1), .ref (fa0 2), .ref (fa0 20), .ref (fa0 21), .ref (fa0 16), .ref (fa0 17), .ref (fa0 22), .ref (fa0 23), .ref (fa0 18), .ref (fa0 24), .ref (fa0 25), .ref (fa0 19), .int 0, .int 0, .int (-1), .int 0, .int 0, .int 0])), ((fa0 19), .inl (cI, 8, .inl (upd (upd (upd (upd (upd (upd (upd (upd (fun _ => 0) 0 (-1)) 1 0) 2 0) 3 0) 4 (-1)) 5 0) 6 0) 7 0)))] sz)) (va_A [(h0, .inr (10, [.ref (fa0 0), .ref (fa0 1), .ref (fa0 2), .ref (fa0 20), .ref (fa0 21), .ref (fa0 16), .ref (fa0 17), .ref (fa0 22), .ref (fa0 23), .ref (fa0 18), .ref (fa0 24), .ref (fa0 25), .ref (fa0 19), .int 0, .int 0, .int (-1), .int 0, .int 0, .int 0])), ((fa0 19), .inl (cI, 8, .inl (upd (upd (upd (upd (upd (upd (upd (upd (fun _ => 0) 0 (-1)) 1 0) 2 0) 3 0) 4 (-1)) 5 0) 6 0) 7 0)))] sz)) 0 0 (va_A [(h0, .inr (10, [.ref (fa0 0), .ref (fa0 1), .ref (fa0 2), .ref (fa0 20), .ref (fa0 21), .ref (fa0 16), .ref (fa0 17), .ref (fa0 22), .ref (fa0 23), .ref (fa0 18), .ref (fa0 24), .ref (fa0 25), .ref (fa0 19), .int 0, .int 0, .int (-1), .int 0, .int 0, .int 0])), ((fa0 19), .inl (cI, 8, .inl (upd (upd (upd (upd (upd (upd (upd (upd (fun _ => 0) 0 (-1)) 1 0) 2 0) 3 0) 4 (-1)) 5 0) 6 0) 7 0)))] sz) := by
  refine Met.ofW (cc := cX10_told) (maxL := 2) (ret := (some .int)) (by decide) rfl ?_
  intro p e s m args below meth c s₁ B hml hv
  obtain ⟨rfl, hsz, hP, hK, hD0⟩ := hv
  have hx := B.exec
  have hb := B.bytes
  have hr := B.returns
  have hts := atoms_spec (ws := wq_X10_told_1) B.pre
  have hown : s.vm.findClass RX10 = some m.cls := findClass_of_methodNamed B.named
  have hlocks := B.notSynchronized
  subst hsz
  have hD := hD0.self (sz := s.heap.size)
  generalize hAe : va_A [(h0, .inr (10, [.ref (fa0 0), .ref (fa0 1), .ref (fa0 2), .ref (fa0 20), .ref (fa0 21), .ref (fa0 16), .ref (fa0 17), .ref (fa0 22), .ref (fa0 23), .ref (fa0 18), .ref (fa0 24), .ref (fa0 25), .ref (fa0 19), .int 0, .int 0, .int (-1), .int 0, .int 0, .int 0])), ((fa0 19), .inl (cI, 8, .inl (upd (upd (upd (upd (upd (upd (upd (upd (fun _ => 0) 0 (-1)) 1 0) 2 0) 3 0) 4 (-1)) 5 0) 6 0) 7 0)))] s.heap.size = A at hD ⊢
  have hA : ∀ q : Nat, s.heap.size ≤ q → A q := fun q h => by rw [← hAe]; exact Or.inr h
  have hS : va_S A s.heap s.heap [] := va_S.rf
  have hP : va_P (dC, dI) vwCl [(h0, .inr (10, [.ref (fa0 0), .ref (fa0 1), .ref (fa0 2), .ref (fa0 20), .ref (fa0 21), .ref (fa0 16), .ref (fa0 17), .ref (fa0 22), .ref (fa0 23), .ref (fa0 18), .ref (fa0 24), .ref (fa0 25), .ref (fa0 19), .int 0, .int 0, .int (-1), .int 0, .int 0, .int 0])), ((fa0 19), .inl (cI, 8, .inl (upd (upd (upd (upd (upd (upd (upd (upd (fun _ => 0) 0 (-1)) 1 0) 2 0) 3 0) 4 (-1)) 5 0) 6 0) 7 0)))] s.heap := hP
  obtain ⟨H, hH⟩ : ∃ H, H = s.heap := ⟨_, rfl⟩
  rw [← hH] at hP
  have hS : va_S A s.heap H [] := by rw [hH]; exact hS
  have hl := lv_entry ([.ref h0, .int 1]) (n := 2) (Nat.le_of_ble_eq_true rfl)
  rw [lg_entry_eq]
  generalize (lg_sl ([.ref h0, .int 1]) ++ List.replicate (2 - (lg_sl ([.ref h0, .int 1])).length) Slot.unset).toArray = ls at hl ⊢
  have hl : lv_has ls 2 [(0, .ref h0), (1, .int 1)] := hl
  refine pq_heap hH ?_
  refine lv_iload_n hx hb dX10_told_0 rfl (lv_at hl 1 rfl) ?_
  refine lv_if_lt (tgt := 22) hx hb dX10_told_1 (by decide) (fun c_ => absurd c_ (by decide)) (fun _ => ?_)
  refine lv_iload_n hx hb dX10_told_4 rfl (lv_at hl 1 rfl) ?_
  refine lv_aload_n hx hb dX10_told_5 rfl (lv_at hl 0 rfl) ?_
  refine va_get (D := (dC, dI)) (ci := 10) (v := .ref (fa0 19)) (C := RX10) (T := TX10) (N := 19) hx hb hts iq_X10_told_1_X10 hown hK hP 0 rfl rfl 12 (by decide) (hts (Cond.fieldLink RX10 97 "CodePress" "tale" "[I") (List.mem_of_getElem? (i := 1) rfl)) (fun _ h9 => h9) rfl dX10_told_6 ?_
  refine va_alen (v := 8) (ty := .int) hx hb hK hP 1 1 rfl rfl (by decide) dX10_told_9 ?_
  refine lv_icmp_ge (tgt := 22) hx hb dX10_told_10 (by decide) (fun c_ => absurd c_ (by decide)) (fun _ => ?_)
  refine lv_aload_n hx hb dX10_told_13 rfl (lv_at hl 0 rfl) ?_
  refine va_get (D := (dC, dI)) (ci := 10) (v := .ref (fa0 19)) (C := RX10) (T := TX10) (N := 19) hx hb hts iq_X10_told_1_X10 hown hK hP 0 rfl rfl 12 (by decide) (hts (Cond.fieldLink RX10 97 "CodePress" "tale" "[I") (List.mem_of_getElem? (i := 1) rfl)) (fun _ h9 => h9) rfl dX10_told_14 ?_
  refine lv_iload_n hx hb dX10_told_17 rfl (lv_at hl 1 rfl) ?_
  refine va_iald hx hb hK hP 1 1 rfl rfl (pq_in (by decide)) dX10_told_18 ?_
  refine lv_topi (fun x1 ex1 => ?_)
  obtain rfl : x1 = 0 := ex1.trans (by decide)
  refine lv_goto (tgt := 23) hx hb dX10_told_19 (by decide) ?_
  have hP9 := pq_P.pick (wc := [(h0, .inr (10, [.ref (fa0 0), .ref (fa0 1), .ref (fa0 2), .ref (fa0 20), .ref (fa0 21), .ref (fa0 16), .ref (fa0 17), .ref (fa0 22), .ref (fa0 23), .ref (fa0 18), .ref (fa0 24), .ref (fa0 25), .ref (fa0 19), .int 0, .int 0, .int (-1), .int 0, .int 0, .int 0])), ((fa0 19), .inl (cI, 8, .inl (upd (upd (upd (upd (upd (upd (upd (upd (fun _ => 0) 0 (-1)) 1 0) 2 0) 3 0) 4 (-1)) 5 0) 6 0) 7 0)))]) hP [0, 1] rfl
  have hD9 := hD.sub (ws' := [(h0, .inr (10, [.ref (fa0 0), .ref (fa0 1), .ref (fa0 2), .ref (fa0 20), .ref (fa0 21), .ref (fa0 16), .ref (fa0 17), .ref (fa0 22), .ref (fa0 23), .ref (fa0 18), .ref (fa0 24), .ref (fa0 25), .ref (fa0 19), .int 0, .int 0, .int (-1), .int 0, .int 0, .int 0])), ((fa0 19), .inl (cI, 8, .inl (upd (upd (upd (upd (upd (upd (upd (upd (fun _ => 0) 0 (-1)) 1 0) 2 0) 3 0) 4 (-1)) 5 0) 6 0) 7 0)))]) [0, 1] (by decide) rfl
  refine W.widen (k := 0) (n := 0) (by decide +kernel) (by decide +kernel) ?_
  exact W.iret (v := 0) hx hb hr (fun t ht hW => ⟨⟨0, sq_u [] [], rfl, rfl, pq_B.of ht hP9 hD9⟩, hS.F ht⟩) hS.2.2 dX10_told_23
def wq_X10_told_2_r1 : List Cond := [Cond.fieldLink RX10 97 "CodePress" "tale" "[I"]
def wq_X10_told_2 : List Cond := Cond.code yX10_told cX10_told 2 (some .int) :: (wq_X10_told_2_r1 ++ wsX100)
theorem iq_X10_told_2_X10 : ∀ w ∈ wsX100, w ∈ wq_X10_told_2 := fun _ h => List.mem_cons_of_mem _ (List.mem_append_right _ h)
set_option maxHeartbeats 4000000 in
set_option maxRecDepth 100000 in
theorem cq_X10_told_2 (l : Launch) (dC : Nat → ClassId) (dI : Nat → Nat → Nat) (cB cI cJ cZ : ClassId) (h0 : Nat) (fa0 : Nat → Nat) (sz : Nat) : Met l yX10_told wq_X10_told_2 ({ frames := 0, cells := 0, slots := 0, locals := 0 }) (va_Pc [.ref h0, .int 2] (pq_W (dC, dI) vwCl (tyQ cB cI cJ cZ) [(h0, .inr (10, [.ref (fa0 0), .ref (fa0 1), .ref (fa0 2), .ref (fa0 20), .ref (fa0 21), .ref (fa0 16), .ref (fa0 17), .ref (fa0 22), .ref (fa0 23), .ref (fa0 18), .ref (fa0 24), .ref (fa0 25), .ref (fa0 19), .int 0, .int 0, .int (-1), .int 0, .int 0, .int 0])), ((fa0 19), .inl (cI, 8, .inl (upd (upd (upd (upd (upd (upd (upd (upd (fun _ => 0) 0 (-1)) 1 0) 2 0) 3 0) 4 (-1)) 5 0) 6 0) 7 0)))] sz)) (va_Qi (fun (r : Int32) (_ : SQ) => r = 0) (fun u => pq_B (dC, dI) vwCl [(h0, .inr (10, [.ref (fa0 0), .ref (fa0 1), .ref (fa0 2), .ref (fa0 20), .ref (fa0 21), .ref (fa0 16), .ref (fa0 17), .ref (fa0 22), .ref (fa0 23), .ref (fa0 18), .ref (fa0 24), .ref (fa0 25), .ref (fa0 19), .int 0, .int 0, .int (-1), .int 0, .int 0, .int 0])), ((fa0 19), .inl (cI, 8, .inl (upd (upd (upd (upd (upd (upd (upd (upd (fun _ => 0) 0 (-1)) 1 0) 2 0) 3 0) 4 (-1)) 5 0) 6 0) 7 0)))] (va_A [(h0, .inr (10, [.ref (fa0 0), .ref (fa0 1), .ref (fa0 2), .ref (fa0 20), .ref (fa0 21), .ref (fa0 16), .ref (fa0 17), .ref (fa0 22), .ref (fa0 23), .ref (fa0 18), .ref (fa0 24), .ref (fa0 25), .ref (fa0 19), .int 0, .int 0, .int (-1), .int 0, .int 0, .int 0])), ((fa0 19), .inl (cI, 8, .inl (upd (upd (upd (upd (upd (upd (upd (upd (fun _ => 0) 0 (-1)) 1 0) 2 0) 3 0) 4 (-1)) 5 0) 6 0) 7 0)))] sz)) (va_A [(h0, .inr (10, [.ref (fa0 0), .ref (fa0 1), .ref (fa0 2), .ref (fa0 20), .ref (fa0 21), .ref (fa0 16), .ref (fa0 17), .ref (fa0 22), .ref (fa0 23), .ref (fa0 18), .ref (fa0 24), .ref (fa0 25), .ref (fa0 19), .int 0, .int 0, .int (-1), .int 0, .int 0, .int 0])), ((fa0 19), .inl (cI, 8, .inl (upd (upd (upd (upd (upd (upd (upd (upd (fun _ => 0) 0 (-1)) 1 0) 2 0) 3 0) 4 (-1)) 5 0) 6 0) 7 0)))] sz)) 0 0 (va_A [(h0, .inr (10, [.ref (fa0 0), .ref (fa0 1), .ref (fa0 2), .ref (fa0 20), .ref (fa0 21), .ref (fa0 16), .ref (fa0 17), .ref (fa0 22), .ref (fa0 23), .ref (fa0 18), .ref (fa0 24), .ref (fa0 25), .ref (fa0 19), .int 0, .int 0, .int (-1), .int 0, .int 0, .int 0])), ((fa0 19), .inl (cI, 8, .inl (upd (upd (upd (upd (upd (upd (upd (upd (fun _ => 0) 0 (-1)) 1 0) 2 0) 3 0) 4 (-1)) 5 0) 6 0) 7 0)))] sz) := by
  refine Met.ofW (cc := cX10_told) (maxL := 2) (ret := (some .int)) (by decide) rfl ?_
  intro p e s m args below meth c s₁ B hml hv
  obtain ⟨rfl, hsz, hP, hK, hD0⟩ := hv
  have hx := B.exec
  have hb := B.bytes
  have hr := B.returns
  have hts := atoms_spec (ws := wq_X10_told_2) B.pre
  have hown : s.vm.findClass RX10 = some m.cls := findClass_of_methodNamed B.named
  have hlocks := B.notSynchronized
  subst hsz
  have hD := hD0.self (sz := s.heap.size)
  generalize hAe : va_A [(h0, .inr (10, [.ref (fa0 0), .ref (fa0 1), .ref (fa0 2), .ref (fa0 20), .ref (fa0 21), .ref (fa0 16), .ref (fa0 17), .ref (fa0 22), .ref (fa0 23), .ref (fa0 18), .ref (fa0 24), .ref (fa0 25), .ref (fa0 19), .int 0, .int 0, .int (-1), .int 0, .int 0, .int 0])), ((fa0 19), .inl (cI, 8, .inl (upd (upd (upd (upd (upd (upd (upd (upd (fun _ => 0) 0 (-1)) 1 0) 2 0) 3 0) 4 (-1)) 5 0) 6 0) 7 0)))] s.heap.size = A at hD ⊢
  have hA : ∀ q : Nat, s.heap.size ≤ q → A q := fun q h => by rw [← hAe]; exact Or.inr h
  have hS : va_S A s.heap s.heap [] := va_S.rf
  have hP : va_P (dC, dI) vwCl [(h0, .inr (10, [.ref (fa0 0), .ref (fa0 1), .ref (fa0 2), .ref (fa0 20), .ref (fa0 21), .ref (fa0 16), .ref (fa0 17), .ref (fa0 22), .ref (fa0 23), .ref (fa0 18), .ref (fa0 24), .ref (fa0 25), .ref (fa0 19), .int 0, .int 0, .int (-1), .int 0, .int 0, .int 0])), ((fa0 19), .inl (cI, 8, .inl (upd (upd (upd (upd (upd (upd (upd (upd (fun _ => 0) 0 (-1)) 1 0) 2 0) 3 0) 4 (-1)) 5 0) 6 0) 7 0)))] s.heap := hP
  obtain ⟨H, hH⟩ : ∃ H, H = s.heap := ⟨_, rfl⟩
  rw [← hH] at hP
  have hS : va_S A s.heap H [] := by rw [hH]; exact hS
  have hl := lv_entry ([.ref h0, .int 2]) (n := 2) (Nat.le_of_ble_eq_true rfl)
  rw [lg_entry_eq]
  generalize (lg_sl ([.ref h0, .int 2]) ++ List.replicate (2 - (lg_sl ([.ref h0, .int 2])).length) Slot.unset).toArray = ls at hl ⊢
  have hl : lv_has ls 2 [(0, .ref h0), (1, .int 2)] := hl
  refine pq_heap hH ?_
  refine lv_iload_n hx hb dX10_told_0 rfl (lv_at hl 1 rfl) ?_
  refine lv_if_lt (tgt := 22) hx hb dX10_told_1 (by decide) (fun c_ => absurd c_ (by decide)) (fun _ => ?_)
  refine lv_iload_n hx hb dX10_told_4 rfl (lv_at hl 1 rfl) ?_
  refine lv_aload_n hx hb dX10_told_5 rfl (lv_at hl 0 rfl) ?_
  refine va_get (D := (dC, dI)) (ci := 10) (v := .ref (fa0 19)) (C := RX10) (T := TX10) (N := 19) hx hb hts iq_X10_told_2_X10 hown hK hP 0 rfl rfl 12 (by decide) (hts (Cond.fieldLink RX10 97 "CodePress" "tale" "[I") (List.mem_of_getElem? (i := 1) rfl)) (fun _ h9 => h9) rfl dX10_told_6 ?_
  refine va_alen (v := 8) (ty := .int) hx hb hK hP 1 1 rfl rfl (by decide) dX10_told_9 ?_
  refine lv_icmp_ge (tgt := 22) hx hb dX10_told_10 (by decide) (fun c_ => absurd c_ (by decide)) (fun _ => ?_)
  refine lv_aload_n hx hb dX10_told_13 rfl (lv_at hl 0 rfl) ?_
  refine va_get (D := (dC, dI)) (ci := 10) (v := .ref (fa0 19)) (C := RX10) (T := TX10) (N := 19) hx hb hts iq_X10_told_2_X10 hown hK hP 0 rfl rfl 12 (by decide) (hts (Cond.fieldLink RX10 97 "CodePress" "tale" "[I") (List.mem_of_getElem? (i := 1) rfl)) (fun _ h9 => h9) rfl dX10_told_14 ?_
  refine lv_iload_n hx hb dX10_told_17 rfl (lv_at hl 1 rfl) ?_
  refine va_iald hx hb hK hP 1 1 rfl rfl (pq_in (by decide)) dX10_told_18 ?_
  refine lv_topi (fun x1 ex1 => ?_)
  obtain rfl : x1 = 0 := ex1.trans (by decide)
  refine lv_goto (tgt := 23) hx hb dX10_told_19 (by decide) ?_
  have hP9 := pq_P.pick (wc := [(h0, .inr (10, [.ref (fa0 0), .ref (fa0 1), .ref (fa0 2), .ref (fa0 20), .ref (fa0 21), .ref (fa0 16), .ref (fa0 17), .ref (fa0 22), .ref (fa0 23), .ref (fa0 18), .ref (fa0 24), .ref (fa0 25), .ref (fa0 19), .int 0, .int 0, .int (-1), .int 0, .int 0, .int 0])), ((fa0 19), .inl (cI, 8, .inl (upd (upd (upd (upd (upd (upd (upd (upd (fun _ => 0) 0 (-1)) 1 0) 2 0) 3 0) 4 (-1)) 5 0) 6 0) 7 0)))]) hP [0, 1] rfl
  have hD9 := hD.sub (ws' := [(h0, .inr (10, [.ref (fa0 0), .ref (fa0 1), .ref (fa0 2), .ref (fa0 20), .ref (fa0 21), .ref (fa0 16), .ref (fa0 17), .ref (fa0 22), .ref (fa0 23), .ref (fa0 18), .ref (fa0 24), .ref (fa0 25), .ref (fa0 19), .int 0, .int 0, .int (-1), .int 0, .int 0, .int 0])), ((fa0 19), .inl (cI, 8, .inl (upd (upd (upd (upd (upd (upd (upd (upd (fun _ => 0) 0 (-1)) 1 0) 2 0) 3 0) 4 (-1)) 5 0) 6 0) 7 0)))]) [0, 1] (by decide) rfl
  refine W.widen (k := 0) (n := 0) (by decide +kernel) (by decide +kernel) ?_
  exact W.iret (v := 0) hx hb hr (fun t ht hW => ⟨⟨0, sq_u [] [], rfl, rfl, pq_B.of ht hP9 hD9⟩, hS.F ht⟩) hS.2.2 dX10_told_23
def wq_X10_told_3_r1 : List Cond := [Cond.fieldLink RX10 97 "CodePress" "tale" "[I"]
def wq_X10_told_3 : List Cond := Cond.code yX10_told cX10_told 2 (some .int) :: (wq_X10_told_3_r1 ++ wsX100)
theorem iq_X10_told_3_X10 : ∀ w ∈ wsX100, w ∈ wq_X10_told_3 := fun _ h => List.mem_cons_of_mem _ (List.mem_append_right _ h)
set_option maxHeartbeats 4000000 in
set_option maxRecDepth 100000 in
theorem cq_X10_told_3 (l : Launch) (dC : Nat → ClassId) (dI : Nat → Nat → Nat) (cB cI cJ cZ : ClassId) (h0 : Nat) (fa0 : Nat → Nat) (sz : Nat) : Met l yX10_told wq_X10_told_3 ({ frames := 0, cells := 0, slots := 0, locals := 0 }) (va_Pc [.ref h0, .int 3] (pq_W (dC, dI) vwCl (tyQ cB cI cJ cZ) [(h0, .inr (10, [.ref (fa0 0), .ref (fa0 1), .ref (fa0 2), .ref (fa0 20), .ref (fa0 21), .ref (fa0 16), .ref (fa0 17), .ref (fa0 22), .ref (fa0 23), .ref (fa0 18), .ref (fa0 24), .ref (fa0 25), .ref (fa0 19), .int 0, .int 0, .int (-1), .int 0, .int 0, .int 0])), ((fa0 19), .inl (cI, 8, .inl (upd (upd (upd (upd (upd (upd (upd (upd (fun _ => 0) 0 (-1)) 1 0) 2 0) 3 0) 4 (-1)) 5 0) 6 0) 7 0)))] sz)) (va_Qi (fun (r : Int32) (_ : SQ) => r = 0) (fun u => pq_B (dC, dI) vwCl [(h0, .inr (10, [.ref (fa0 0), .ref (fa0 1), .ref (fa0 2), .ref (fa0 20), .ref (fa0 21), .ref (fa0 16), .ref (fa0 17), .ref (fa0 22), .ref (fa0 23), .ref (fa0 18), .ref (fa0 24), .ref (fa0 25), .ref (fa0 19), .int 0, .int 0, .int (-1), .int 0, .int 0, .int 0])), ((fa0 19), .inl (cI, 8, .inl (upd (upd (upd (upd (upd (upd (upd (upd (fun _ => 0) 0 (-1)) 1 0) 2 0) 3 0) 4 (-1)) 5 0) 6 0) 7 0)))] (va_A [(h0, .inr (10, [.ref (fa0 0), .ref (fa0 1), .ref (fa0 2), .ref (fa0 20), .ref (fa0 21), .ref (fa0 16), .ref (fa0 17), .ref (fa0 22), .ref (fa0 23), .ref (fa0 18), .ref (fa0 24), .ref (fa0 25), .ref (fa0 19), .int 0, .int 0, .int (-1), .int 0, .int 0, .int 0])), ((fa0 19), .inl (cI, 8, .inl (upd (upd (upd (upd (upd (upd (upd (upd (fun _ => 0) 0 (-1)) 1 0) 2 0) 3 0) 4 (-1)) 5 0) 6 0) 7 0)))] sz)) (va_A [(h0, .inr (10, [.ref (fa0 0), .ref (fa0 1), .ref (fa0 2), .ref (fa0 20), .ref (fa0 21), .ref (fa0 16), .ref (fa0 17), .ref (fa0 22), .ref (fa0 23), .ref (fa0 18), .ref (fa0 24), .ref (fa0 25), .ref (fa0 19), .int 0, .int 0, .int (-1), .int 0, .int 0, .int 0])), ((fa0 19), .inl (cI, 8, .inl (upd (upd (upd (upd (upd (upd (upd (upd (fun _ => 0) 0 (-1)) 1 0) 2 0) 3 0) 4 (-1)) 5 0) 6 0) 7 0)))] sz)) 0 0 (va_A [(h0, .inr (10, [.ref (fa0 0), .ref (fa0 1), .ref (fa0 2), .ref (fa0 20), .ref (fa0 21), .ref (fa0 16), .ref (fa0 17), .ref (fa0 22), .ref (fa0 23), .ref (fa0 18), .ref (fa0 24), .ref (fa0 25), .ref (fa0 19), .int 0, .int 0, .int (-1), .int 0, .int 0, .int 0])), ((fa0 19), .inl (cI, 8, .inl (upd (upd (upd (upd (upd (upd (upd (upd (fun _ => 0) 0 (-1)) 1 0) 2 0) 3 0) 4 (-1)) 5 0) 6 0) 7 0)))] sz) := by
  refine Met.ofW (cc := cX10_told) (maxL := 2) (ret := (some .int)) (by decide) rfl ?_
  intro p e s m args below meth c s₁ B hml hv
  obtain ⟨rfl, hsz, hP, hK, hD0⟩ := hv
  have hx := B.exec
  have hb := B.bytes
  have hr := B.returns
  have hts := atoms_spec (ws := wq_X10_told_3) B.pre
  have hown : s.vm.findClass RX10 = some m.cls := findClass_of_methodNamed B.named
  have hlocks := B.notSynchronized
  subst hsz
  have hD := hD0.self (sz := s.heap.size)
  generalize hAe : va_A [(h0, .inr (10, [.ref (fa0 0), .ref (fa0 1), .ref (fa0 2), .ref (fa0 20), .ref (fa0 21), .ref (fa0 16), .ref (fa0 17), .ref (fa0 22), .ref (fa0 23), .ref (fa0 18), .ref (fa0 24), .ref (fa0 25), .ref (fa0 19), .int 0, .int 0, .int (-1), .int 0, .int 0, .int 0])), ((fa0 19), .inl (cI, 8, .inl (upd (upd (upd (upd (upd (upd (upd (upd (fun _ => 0) 0 (-1)) 1 0) 2 0) 3 0) 4 (-1)) 5 0) 6 0) 7 0)))] s.heap.size = A at hD ⊢
  have hA : ∀ q : Nat, s.heap.size ≤ q → A q := fun q h => by rw [← hAe]; exact Or.inr h
  have hS : va_S A s.heap s.heap [] := va_S.rf
  have hP : va_P (dC, dI) vwCl [(h0, .inr (10, [.ref (fa0 0), .ref (fa0 1), .ref (fa0 2), .ref (fa0 20), .ref (fa0 21), .ref (fa0 16), .ref (fa0 17), .ref (fa0 22), .ref (fa0 23), .ref (fa0 18), .ref (fa0 24), .ref (fa0 25), .ref (fa0 19), .int 0, .int 0, .int (-1), .int 0, .int 0, .int 0])), ((fa0 19), .inl (cI, 8, .inl (upd (upd (upd (upd (upd (upd (upd (upd (fun _ => 0) 0 (-1)) 1 0) 2 0) 3 0) 4 (-1)) 5 0) 6 0) 7 0)))] s.heap := hP
  obtain ⟨H, hH⟩ : ∃ H, H = s.heap := ⟨_, rfl⟩
  rw [← hH] at hP
  have hS : va_S A s.heap H [] := by rw [hH]; exact hS
  have hl := lv_entry ([.ref h0, .int 3]) (n := 2) (Nat.le_of_ble_eq_true rfl)
  rw [lg_entry_eq]
  generalize (lg_sl ([.ref h0, .int 3]) ++ List.replicate (2 - (lg_sl ([.ref h0, .int 3])).length) Slot.unset).toArray = ls at hl ⊢
  have hl : lv_has ls 2 [(0, .ref h0), (1, .int 3)] := hl
  refine pq_heap hH ?_
  refine lv_iload_n hx hb dX10_told_0 rfl (lv_at hl 1 rfl) ?_
  refine lv_if_lt (tgt := 22) hx hb dX10_told_1 (by decide) (fun c_ => absurd c_ (by decide)) (fun _ => ?_)
  refine lv_iload_n hx hb dX10_told_4 rfl (lv_at hl 1 rfl) ?_
  refine lv_aload_n hx hb dX10_told_5 rfl (lv_at hl 0 rfl) ?_
  refine va_get (D := (dC, dI)) (ci := 10) (v := .ref (fa0 19)) (C := RX10) (T := TX10) (N := 19) hx hb hts iq_X10_told_3_X10 hown hK hP 0 rfl rfl 12 (by decide) (hts (Cond.fieldLink RX10 97 "CodePress" "tale" "[I") (List.mem_of_getElem? (i := 1) rfl)) (fun _ h9 => h9) rfl dX10_told_6 ?_
  refine va_alen (v := 8) (ty := .int) hx hb hK hP 1 1 rfl rfl (by decide) dX10_told_9 ?_
  refine lv_icmp_ge (tgt := 22) hx hb dX10_told_10 (by decide) (fun c_ => absurd c_ (by decide)) (fun _ => ?_)
  refine lv_aload_n hx hb dX10_told_13 rfl (lv_at hl 0 rfl) ?_
  refine va_get (D := (dC, dI)) (ci := 10) (v := .ref (fa0 19)) (C := RX10) (T := TX10) (N := 19) hx hb hts iq_X10_told_3_X10 hown hK hP 0 rfl rfl 12 (by decide) (hts (Cond.fieldLink RX10 97 "CodePress" "tale" "[I") (List.mem_of_getElem? (i := 1) rfl)) (fun _ h9 => h9) rfl dX10_told_14 ?_
  refine lv_iload_n hx hb dX10_told_17 rfl (lv_at hl 1 rfl) ?_
  refine va_iald hx hb hK hP 1 1 rfl rfl (pq_in (by decide)) dX10_told_18 ?_
  refine lv_topi (fun x1 ex1 => ?_)
  obtain rfl : x1 = 0 := ex1.trans (by decide)
  refine lv_goto (tgt := 23) hx hb dX10_told_19 (by decide) ?_
  have hP9 := pq_P.pick (wc := [(h0, .inr (10, [.ref (fa0 0), .ref (fa0 1), .ref (fa0 2), .ref (fa0 20), .ref (fa0 21), .ref (fa0 16), .ref (fa0 17), .ref (fa0 22), .ref (fa0 23), .ref (fa0 18), .ref (fa0 24), .ref (fa0 25), .ref (fa0 19), .int 0, .int 0, .int (-1), .int 0, .int 0, .int 0])), ((fa0 19), .inl (cI, 8, .inl (upd (upd (upd (upd (upd (upd (upd (upd (fun _ => 0) 0 (-1)) 1 0) 2 0) 3 0) 4 (-1)) 5 0) 6 0) 7 0)))]) hP [0, 1] rfl
  have hD9 := hD.sub (ws' := [(h0, .inr (10, [.ref (fa0 0), .ref (fa0 1), .ref (fa0 2), .ref (fa0 20), .ref (fa0 21), .ref (fa0 16), .ref (fa0 17), .ref (fa0 22), .ref (fa0 23), .ref (fa0 18), .ref (fa0 24), .ref (fa0 25), .ref (fa0 19), .int 0, .int 0, .int (-1), .int 0, .int 0, .int 0])), ((fa0 19), .inl (cI, 8, .inl (upd (upd (upd (upd (upd (upd (upd (upd (fun _ => 0) 0 (-1)) 1 0) 2 0) 3 0) 4 (-1)) 5 0) 6 0) 7 0)))]) [0, 1] (by decide) rfl
  refine W.widen (k := 0) (n := 0) (by decide +kernel) (by decide +kernel) ?_
  exact W.iret (v := 0) hx hb hr (fun t ht hW => ⟨⟨0, sq_u [] [], rfl, rfl, pq_B.of ht hP9 hD9⟩, hS.F ht⟩) hS.2.2 dX10_told_23
def wq_X10_told_4_r1 : List Cond := [Cond.fieldLink RX10 97 "CodePress" "tale" "[I"]
def wq_X10_told_4 : List Cond := Cond.code yX10_told cX10_told 2 (some .int) :: (wq_X10_told_4_r1 ++ wsX100)
theorem iq_X10_told_4_X10 : ∀ w ∈ wsX100, w ∈ wq_X10_told_4 := fun _ h => List.mem_cons_of_mem _ (List.mem_append_right _ h)
set_option maxHeartbeats 4000000 in
set_option maxRecDepth 100000 in
theorem cq_X10_told_4 (l : Launch) (dC : Nat → ClassId) (dI : Nat → Nat → Nat) (cB cI cJ cZ : ClassId) (h0 : Nat) (fa0 : Nat → Nat) (sz : Nat) : Met l yX10_told wq_X10_told_4 ({ frames := 0, cells := 0, slots := 0, locals := 0 }) (va_Pc [.ref h0, .int 4] (pq_W (dC, dI) vwCl (tyQ cB cI cJ cZ) [(h0, .inr (10, [.ref (fa0 0), .ref (fa0 1), .ref (fa0 2), .ref (fa0 20), .ref (fa0 21), .ref (fa0 16), .ref (fa0 17), .ref (fa0 22), .ref (fa0 23), .ref (fa0 18), .ref (fa0 24), .ref (fa0 25), .ref (fa0 19), .int 0, .int 0, .int (-1), .int 0, .int 0, .int 0])), ((fa0 19), .inl (cI, 8, .inl (upd (upd (upd (upd (upd (upd (upd (upd (fun _ => 0) 0 (-1)) 1 0) 2 0) 3 0) 4 (-1)) 5 0) 6 0) 7 0)))] sz)) (va_Qi (fun (r : Int32) (_ : SQ) => r = (-1)) (fun u => pq_B (dC, dI) vwCl [(h0, .inr (10, [.ref (fa0 0), .ref (fa0 1), .ref (fa0 2), .ref (fa0 20), .ref (fa0 21), .ref (fa0 16), .ref (fa0 17), .ref (fa0 22), .ref (fa0 23), .ref (fa0 18), .ref (fa0 24), .ref (fa0 25), .ref (fa0 19), .int 0, .int 0, .int (-1), .int 0, .int 0, .int 0])), ((fa0 19), .inl (cI, 8, .inl (upd (upd (upd (upd (upd (upd (upd (upd (fun _ => 0) 0 (-1)) 1 0) 2 0) 3 0) 4 (-1)) 5 0) 6 0) 7 0)))] (va_A [(h0, .inr (10, [.ref (fa0 0), .ref (fa0 1), .ref (fa0 2), .ref (fa0 20), .ref (fa0 21), .ref (fa0 16), .ref (fa0 17), .ref (fa0 22), .ref (fa0 23), .ref (fa0 18), .ref (fa0 24), .ref (fa0 25), .ref (fa0 19), .int 0, .int 0, .int (-1), .int 0, .int 0, .int 0])), ((fa0 19), .inl (cI, 8, .inl (upd (upd (upd (upd (upd (upd (upd (upd (fun _ => 0) 0 (-1)) 1 0) 2 0) 3 0) 4 (-1)) 5 0) 6 0) 7 0)))] sz)) (va_A [(h0, .inr (10, [.ref (fa0 0), .ref (fa0 1), .ref (fa0 2), .ref (fa0 20), .ref (fa0 21), .ref (fa0 16), .ref (fa0 17), .ref (fa0 22), .ref (fa0 23), .ref (fa0 18), .ref (fa0 24), .ref (fa0 25), .ref (fa0 19), .int 0, .int 0, .int (-1), .int 0, .int 0, .int 0])), ((fa0 19), .inl (cI, 8, .inl (upd (upd (upd (upd (upd (upd (upd (upd (fun _ => 0) 0 (-1)) 1 0) 2 0) 3 0) 4 (-1)) 5 0) 6 0) 7 0)))] sz)) 0 0 (va_A [(h0, .inr (10, [.ref (fa0 0), .ref (fa0 1), .ref (fa0 2), .ref (fa0 20), .ref (fa0 21), .ref (fa0 16), .ref (fa0 17), .ref (fa0 22), .ref (fa0 23), .ref (fa0 18), .ref (fa0 24), .ref (fa0 25), .ref (fa0 19), .int 0, .int 0, .int (-1), .int 0, .int 0, .int 0])), ((fa0 19), .inl (cI, 8, .inl (upd (upd (upd (upd (upd (upd (upd (upd (fun _ => 0) 0 (-1)) 1 0) 2 0) 3 0) 4 (-1)) 5 0) 6 0) 7 0)))] sz) := by
  refine Met.ofW (cc := cX10_told) (maxL := 2) (ret := (some .int)) (by decide) rfl ?_
  intro p e s m args below meth c s₁ B hml hv
  obtain ⟨rfl, hsz, hP, hK, hD0⟩ := hv
  have hx := B.exec
  have hb := B.bytes
  have hr := B.returns
  have hts := atoms_spec (ws := wq_X10_told_4) B.pre
  have hown : s.vm.findClass RX10 = some m.cls := findClass_of_methodNamed B.named
  have hlocks := B.notSynchronized
  subst hsz
  have hD := hD0.self (sz := s.heap.size)
  generalize hAe : va_A [(h0, .inr (10, [.ref (fa0 0), .ref (fa0 1), .ref (fa0 2), .ref (fa0 20), .ref (fa0 21), .ref (fa0 16), .ref (fa0 17), .ref (fa0 22), .ref (fa0 23), .ref (fa0 18), .ref (fa0 24), .ref (fa0 25), .ref (fa0 19), .int 0, .int 0, .int (-1), .int 0, .int 0, .int 0])), ((fa0 19), .inl (cI, 8, .inl (upd (upd (upd (upd (upd (upd (upd (upd (fun _ => 0) 0 (-1)) 1 0) 2 0) 3 0) 4 (-1)) 5 0) 6 0) 7 0)))] s.heap.size = A at hD ⊢
  have hA : ∀ q : Nat, s.heap.size ≤ q → A q := fun q h => by rw [← hAe]; exact Or.inr h
  have hS : va_S A s.heap s.heap [] := va_S.rf
  have hP : va_P (dC, dI) vwCl [(h0, .inr (10, [.ref (fa0 0), .ref (fa0 1), .ref (fa0 2), .ref (fa0 20), .ref (fa0 21), .ref (fa0 16), .ref (fa0 17), .ref (fa0 22), .ref (fa0 23), .ref (fa0 18), .ref (fa0 24), .ref (fa0 25), .ref (fa0 19), .int 0, .int 0, .int (-1), .int 0, .int 0, .int 0])), ((fa0 19), .inl (cI, 8, .inl (upd (upd (upd (upd (upd (upd (upd (upd (fun _ => 0) 0 (-1)) 1 0) 2 0) 3 0) 4 (-1)) 5 0) 6 0) 7 0)))] s.heap := hP
  obtain ⟨H, hH⟩ : ∃ H, H = s.heap := ⟨_, rfl⟩
  rw [← hH] at hP
  have hS : va_S A s.heap H [] := by rw [hH]; exact hS
  have hl := lv_entry ([.ref h0, .int 4]) (n := 2) (Nat.le_of_ble_eq_true rfl)
  rw [lg_entry_eq]
  generalize (lg_sl ([.ref h0, .int 4]) ++ List.replicate (2 - (lg_sl ([.ref h0, .int 4])).length) Slot.unset).toArray = ls at hl ⊢
  have hl : lv_has ls 2 [(0, .ref h0), (1, .int 4)] := hl
  refine pq_heap hH ?_
  refine lv_iload_n hx hb dX10_told_0 rfl (lv_at hl 1 rfl) ?_
  refine lv_if_lt (tgt := 22) hx hb dX10_told_1 (by decide) (fun c_ => absurd c_ (by decide)) (fun _ => ?_)
  refine lv_iload_n hx hb dX10_told_4 rfl (lv_at hl 1 rfl) ?_
  refine lv_aload_n hx hb dX10_told_5 rfl (lv_at hl 0 rfl) ?_
  refine va_get (D := (dC, dI)) (ci := 10) (v := .ref (fa0 19)) (C := RX10) (T := TX10) (N := 19) hx hb hts iq_X10_told_4_X10 hown hK hP 0 rfl rfl 12 (by decide) (hts (Cond.fieldLink RX10 97 "CodePress" "tale" "[I") (List.mem_of_getElem? (i := 1) rfl)) (fun _ h9 => h9) rfl dX10_told_6 ?_
  refine va_alen (v := 8) (ty := .int) hx hb hK hP 1 1 rfl rfl (by decide) dX10_told_9 ?_
  refine lv_icmp_ge (tgt := 22) hx hb dX10_told_10 (by decide) (fun c_ => absurd c_ (by decide)) (fun _ => ?_)
  refine lv_aload_n hx hb dX10_told_13 rfl (lv_at hl 0 rfl) ?_
  refine va_get (D := (dC, dI)) (ci := 10) (v := .ref (fa0 19)) (C := RX10) (T := TX10) (N := 19) hx hb hts iq_X10_told_4_X10 hown hK hP 0 rfl rfl 12 (by decide) (hts (Cond.fieldLink RX10 97 "CodePress" "tale" "[I") (List.mem_of_getElem? (i := 1) rfl)) (fun _ h9 => h9) rfl dX10_told_14 ?_
  refine lv_iload_n hx hb dX10_told_17 rfl (lv_at hl 1 rfl) ?_
  refine va_iald hx hb hK hP 1 1 rfl rfl (pq_in (by decide)) dX10_told_18 ?_
  refine lv_topi (fun x1 ex1 => ?_)
  obtain rfl : x1 = (-1) := ex1.trans (by decide)
  refine lv_goto (tgt := 23) hx hb dX10_told_19 (by decide) ?_
  have hP9 := pq_P.pick (wc := [(h0, .inr (10, [.ref (fa0 0), .ref (fa0 1), .ref (fa0 2), .ref (fa0 20), .ref (fa0 21), .ref (fa0 16), .ref (fa0 17), .ref (fa0 22), .ref (fa0 23), .ref (fa0 18), .ref (fa0 24), .ref (fa0 25), .ref (fa0 19), .int 0, .int 0, .int (-1), .int 0, .int 0, .int 0])), ((fa0 19), .inl (cI, 8, .inl (upd (upd (upd (upd (upd (upd (upd (upd (fun _ => 0) 0 (-1)) 1 0) 2 0) 3 0) 4 (-1)) 5 0) 6 0) 7 0)))]) hP [0, 1] rfl
  have hD9 := hD.sub (ws' := [(h0, .inr (10, [.ref (fa0 0), .ref (fa0 1), .ref (fa0 2), .ref (fa0 20), .ref (fa0 21), .ref (fa0 16), .ref (fa0 17), .ref (fa0 22), .ref (fa0 23), .ref (fa0 18), .ref (fa0 24), .ref (fa0 25), .ref (fa0 19), .int 0, .int 0, .int (-1), .int 0, .int 0, .int 0])), ((fa0 19), .inl (cI, 8, .inl (upd (upd (upd (upd (upd (upd (upd (upd (fun _ => 0) 0 (-1)) 1 0) 2 0) 3 0) 4 (-1)) 5 0) 6 0) 7 0)))]) [0, 1] (by decide) rfl
  refine W.widen (k := 0) (n := 0) (by decide +kernel) (by decide +kernel) ?_
  exact W.iret (v := (-1)) hx hb hr (fun t ht hW => ⟨⟨(-1), sq_u [] [], rfl, rfl, pq_B.of ht hP9 hD9⟩, hS.F ht⟩) hS.2.2 dX10_told_23
def wq_X10_told_5_r1 : List Cond := [Cond.fieldLink RX10 97 "CodePress" "tale" "[I"]
def wq_X10_told_5 : List Cond := Cond.code yX10_told cX10_told 2 (some .int) :: (wq_X10_told_5_r1 ++ wsX100)
theorem iq_X10_told_5_X10 : ∀ w ∈ wsX100, w ∈ wq_X10_told_5 := fun _ h => List.mem_cons_of_mem _ (List.mem_append_right _ h)
set_option maxHeartbeats 4000000 in
set_option maxRecDepth 100000 in
theorem cq_X10_told_5 (l : Launch) (dC : Nat → ClassId) (dI : Nat → Nat → Nat) (cB cI cJ cZ : ClassId) (h0 : Nat) (fa0 : Nat → Nat) (sz : Nat) : Met l yX10_told wq_X10_told_5 ({ frames := 0, cells := 0, slots := 0, locals := 0 }) (va_Pc [.ref h0, .int 5] (pq_W (dC, dI) vwCl (tyQ cB cI cJ cZ) [(h0, .inr (10, [.ref (fa0 0), .ref (fa0 1), .ref (fa0 2), .ref (fa0 20), .ref (fa0 21), .ref (fa0 16), .ref (fa0 17), .ref (fa0 22), .ref (fa0 23), .ref (fa0 18), .ref (fa0 24), .ref (fa0 25), .ref (fa0 19), .int 0, .int 0, .int (-1), .int 0, .int 0, .int 0])), ((fa0 19), .inl (cI, 8, .inl (upd (upd (upd (upd (upd (upd (upd (upd (fun _ => 0) 0 (-1)) 1 0) 2 0) 3 0) 4 (-1)) 5 0) 6 0) 7 0)))] sz)) (va_Qi (fun (r : Int32) (_ : SQ) => r = 0) (fun u => pq_B (dC, dI) vwCl [(h0, .inr (10, [.ref (fa0 0), .ref (fa0 1), .ref (fa0 2), .ref (fa0 20), .ref (fa0 21), .ref (fa0 16), .ref (fa0 17), .ref (fa0 22), .ref (fa0 23), .ref (fa0 18), .ref (fa0 24), .ref (fa0 25), .ref (fa0 19), .int 0, .int 0, .int (-1), .int 0, .int 0, .int 0])), ((fa0 19), .inl (cI, 8, .inl (upd (upd (upd (upd (upd (upd (upd (upd (fun _ => 0) 0 (-1)) 1 0) 2 0) 3 0) 4 (-1)) 5 0) 6 0) 7 0)))] (va_A [(h0, .inr (10, [.ref (fa0 0), .ref (fa0 1), .ref (fa0 2), .ref (fa0 20), .ref (fa0 21), .ref (fa0 16), .ref (fa0 17), .ref (fa0 22), .ref (fa0 23), .ref (fa0 18), .ref (fa0 24), .ref (fa0 25), .ref (fa0 19), .int 0, .int 0, .int (-1), .int 0, .int 0, .int 0])), ((fa0 19), .inl (cI, 8, .inl (upd (upd (upd (upd (upd (upd (upd (upd (fun _ => 0) 0 (-1)) 1 0) 2 0) 3 0) 4 (-1)) 5 0) 6 0) 7 0)))] sz)) (va_A [(h0, .inr (10, [.ref (fa0 0), .ref (fa0 1), .ref (fa0 2), .ref (fa0 20), .ref (fa0 21), .ref (fa0 16), .ref (fa0 17), .ref (fa0 22), .ref (fa0 23), .ref (fa0 18), .ref (fa0 24), .ref (fa0 25), .ref (fa0 19), .int 0, .int 0, .int (-1), .int 0, .int 0, .int 0])), ((fa0 19), .inl (cI, 8, .inl (upd (upd (upd (upd (upd (upd (upd (upd (fun _ => 0) 0 (-1)) 1 0) 2 0) 3 0) 4 (-1)) 5 0) 6 0) 7 0)))] sz)) 0 0 (va_A [(h0, .inr (10, [.ref (fa0 0), .ref (fa0 1), .ref (fa0 2), .ref (fa0 20), .ref (fa0 21), .ref (fa0 16), .ref (fa0 17), .ref (fa0 22), .ref (fa0 23), .ref (fa0 18), .ref (fa0 24), .ref (fa0 25), .ref (fa0 19), .int 0, .int 0, .int (-1), .int 0, .int 0, .int 0])), ((fa0 19), .inl (cI, 8, .inl (upd (upd (upd (upd (upd (upd (upd (upd (fun _ => 0) 0 (-1)) 1 0) 2 0) 3 0) 4 (-1)) 5 0) 6 0) 7 0)))] sz) := by
  refine Met.ofW (cc := cX10_told) (maxL := 2) (ret := (some .int)) (by decide) rfl ?_
  intro p e s m args below meth c s₁ B hml hv
  obtain ⟨rfl, hsz, hP, hK, hD0⟩ := hv
  have hx := B.exec
  have hb := B.bytes
  have hr := B.returns
  have hts := atoms_spec (ws := wq_X10_told_5) B.pre
  have hown : s.vm.findClass RX10 = some m.cls := findClass_of_methodNamed B.named
  have hlocks := B.notSynchronized
  subst hsz
  have hD := hD0.self (sz := s.heap.size)
  generalize hAe : va_A [(h0, .inr (10, [.ref (fa0 0), .ref (fa0 1), .ref (fa0 2), .ref (fa0 20), .ref (fa0 21), .ref (fa0 16), .ref (fa0 17), .ref (fa0 22), .ref (fa0 23), .ref (fa0 18), .ref (fa0 24), .ref (fa0 25), .ref (fa0 19), .int 0, .int 0, .int (-1), .int 0, .int 0, .int 0])), ((fa0 19), .inl (cI, 8, .inl (upd (upd (upd (upd (upd (upd (upd (upd (fun _ => 0) 0 (-1)) 1 0) 2 0) 3 0) 4 (-1)) 5 0) 6 0) 7 0)))] s.heap.size = A at hD ⊢
  have hA : ∀ q : Nat, s.heap.size ≤ q → A q := fun q h => by rw [← hAe]; exact Or.inr h
  have hS : va_S A s.heap s.heap [] := va_S.rf
  have hP : va_P (dC, dI) vwCl [(h0, .inr (10, [.ref (fa0 0), .ref (fa0 1), .ref (fa0 2), .ref (fa0 20), .ref (fa0 21), .ref (fa0 16), .ref (fa0 17), .ref (fa0 22), .ref (fa0 23), .ref (fa0 18), .ref (fa0 24), .ref (fa0 25), .ref (fa0 19), .int 0, .int 0, .int (-1), .int 0, .int 0, .int 0])), ((fa0 19), .inl (cI, 8, .inl (upd (upd (upd (upd (upd (upd (upd (upd (fun _ => 0) 0 (-1)) 1 0) 2 0) 3 0) 4 (-1)) 5 0) 6 0) 7 0)))] s.heap := hP
  obtain ⟨H, hH⟩ : ∃ H, H = s.heap := ⟨_, rfl⟩
  rw [← hH] at hP
  have hS : va_S A s.heap H [] := by rw [hH]; exact hS
  have hl := lv_entry ([.ref h0, .int 5]) (n := 2) (Nat.le_of_ble_eq_true rfl)
  rw [lg_entry_eq]
  generalize (lg_sl ([.ref h0, .int 5]) ++ List.replicate (2 - (lg_sl ([.ref h0, .int 5])).length) Slot.unset).toArray = ls at hl ⊢
  have hl : lv_has ls 2 [(0, .ref h0), (1, .int 5)] := hl
  refine pq_heap hH ?_
  refine lv_iload_n hx hb dX10_told_0 rfl (lv_at hl 1 rfl) ?_
  refine lv_if_lt (tgt := 22) hx hb dX10_told_1 (by decide) (fun c_ => absurd c_ (by decide)) (fun _ => ?_)
  refine lv_iload_n hx hb dX10_told_4 rfl (lv_at hl 1 rfl) ?_
  refine lv_aload_n hx hb dX10_told_5 rfl (lv_at hl 0 rfl) ?_
  refine va_get (D := (dC, dI)) (ci := 10) (v := .ref (fa0 19)) (C := RX10) (T := TX10) (N := 19) hx hb hts iq_X10_told_5_X10 hown hK hP 0 rfl rfl 12 (by decide) (hts (Cond.fieldLink RX10 97 "CodePress" "tale" "[I") (List.mem_of_getElem? (i := 1) rfl)) (fun _ h9 => h9) rfl dX10_told_6 ?_
  refine va_alen (v := 8) (ty := .int) hx hb hK hP 1 1 rfl rfl (by decide) dX10_told_9 ?_
  refine lv_icmp_ge (tgt := 22) hx hb dX10_told_10 (by decide) (fun c_ => absurd c_ (by decide)) (fun _ => ?_)
  refine lv_aload_n hx hb dX10_told_13 rfl (lv_at hl 0 rfl) ?_
  refine va_get (D := (dC, dI)) (ci := 10) (v := .ref (fa0 19)) (C := RX10) (T := TX10) (N := 19) hx hb hts iq_X10_told_5_X10 hown hK hP 0 rfl rfl 12 (by decide) (hts (Cond.fieldLink RX10 97 "CodePress" "tale" "[I") (List.mem_of_getElem? (i := 1) rfl)) (fun _ h9 => h9) rfl dX10_told_14 ?_
  refine lv_iload_n hx hb dX10_told_17 rfl (lv_at hl 1 rfl) ?_
  refine va_iald hx hb hK hP 1 1 rfl rfl (pq_in (by decide)) dX10_told_18 ?_
  refine lv_topi (fun x1 ex1 => ?_)
  obtain rfl : x1 = 0 := ex1.trans (by decide)
  refine lv_goto (tgt := 23) hx hb dX10_told_19 (by decide) ?_
  have hP9 := pq_P.pick (wc := [(h0, .inr (10, [.ref (fa0 0), .ref (fa0 1), .ref (fa0 2), .ref (fa0 20), .ref (fa0 21), .ref (fa0 16), .ref (fa0 17), .ref (fa0 22), .ref (fa0 23), .ref (fa0 18), .ref (fa0 24), .ref (fa0 25), .ref (fa0 19), .int 0, .int 0, .int (-1), .int 0, .int 0, .int 0])), ((fa0 19), .inl (cI, 8, .inl (upd (upd (upd (upd (upd (upd (upd (upd (fun _ => 0) 0 (-1)) 1 0) 2 0) 3 0) 4 (-1)) 5 0) 6 0) 7 0)))]) hP [0, 1] rfl
  have hD9 := hD.sub (ws' := [(h0, .inr (10, [.ref (fa0 0), .ref (fa0 1), .ref (fa0 2), .ref (fa0 20), .ref (fa0 21), .ref (fa0 16), .ref (fa0 17), .ref (fa0 22), .ref (fa0 23), .ref (fa0 18), .ref (fa0 24), .ref (fa0 25), .ref (fa0 19), .int 0, .int 0, .int (-1), .int 0, .int 0, .int 0])), ((fa0 19), .inl (cI, 8, .inl (upd (upd (upd (upd (upd (upd (upd (upd (fun _ => 0) 0 (-1)) 1 0) 2 0) 3 0) 4 (-1)) 5 0) 6 0) 7 0)))]) [0, 1] (by decide) rfl
  refine W.widen (k := 0) (n := 0) (by decide +kernel) (by decide +kernel) ?_
  exact W.iret (v := 0) hx hb hr (fun t ht hW => ⟨⟨0, sq_u [] [], rfl, rfl, pq_B.of ht hP9 hD9⟩, hS.F ht⟩) hS.2.2 dX10_told_23
def wq_X10_told_6_r1 : List Cond := [Cond.fieldLink RX10 97 "CodePress" "tale" "[I"]
def wq_X10_told_6 : List Cond := Cond.code yX10_told cX10_told 2 (some .int) :: (wq_X10_told_6_r1 ++ wsX100)
theorem iq_X10_told_6_X10 : ∀ w ∈ wsX100, w ∈ wq_X10_told_6 := fun _ h => List.mem_cons_of_mem _ (List.mem_append_right _ h)
set_option maxHeartbeats 4000000 in
set_option maxRecDepth 100000 in
theorem cq_X10_told_6 (l : Launch) (dC : Nat → ClassId) (dI : Nat → Nat → Nat) (cB cI cJ cZ : ClassId) (h0 : Nat) (fa0 : Nat → Nat) (sz : Nat) : Met l yX10_told wq_X10_told_6 ({ frames := 0, cells := 0, slots := 0, locals := 0 }) (va_Pc [.ref h0, .int 6] (pq_W (dC, dI) vwCl (tyQ cB cI cJ cZ) [(h0, .inr (10, [.ref (fa0 0), .ref (fa0 1), .ref (fa0 2), .ref (fa0 20), .ref (fa0 21), .ref (fa0 16), .ref (fa0 17), .ref (fa0 22), .ref (fa0 23), .ref (fa0 18), .ref (fa0 24), .ref (fa0 25), .ref (fa0 19), .int 0, .int 0, .int (-1), .int 0, .int 0, .int 0])), ((fa0 19), .inl (cI, 8, .inl (upd (upd (upd (upd (upd (upd (upd (upd (fun _ => 0) 0 (-1)) 1 0) 2 0) 3 0) 4 (-1)) 5 0) 6 0) 7 0)))] sz)) (va_Qi (fun (r : Int32) (_ : SQ) => r = 0) (fun u => pq_B (dC, dI) vwCl [(h0, .inr (10, [.ref (fa0 0), .ref (fa0 1), .ref (fa0 2), .ref (fa0 20), .ref (fa0 21), .ref (fa0 16), .ref (fa0 17), .ref (fa0 22), .ref (fa0 23), .ref (fa0 18), .ref (fa0 24), .ref (fa0 25), .ref (fa0 19), .int 0, .int 0, .int (-1), .int 0, .int 0, .int 0])), ((fa0 19), .inl (cI, 8, .inl (upd (upd (upd (upd (upd (upd (upd (upd (fun _ => 0) 0 (-1)) 1 0) 2 0) 3 0) 4 (-1)) 5 0) 6 0) 7 0)))] (va_A [(h0, .inr (10, [.ref (fa0 0), .ref (fa0 1), .ref (fa0 2), .ref (fa0 20), .ref (fa0 21), .ref (fa0 16), .ref (fa0 17), .ref (fa0 22), .ref (fa0 23), .ref (fa0 18), .ref (fa0 24), .ref (fa0 25), .ref (fa0 19), .int 0, .int 0, .int (-1), .int 0, .int 0, .int 0])), ((fa0 19), .inl (cI, 8, .inl (upd (upd (upd (upd (upd (upd (upd (upd (fun _ => 0) 0 (-1)) 1 0) 2 0) 3 0) 4 (-1)) 5 0) 6 0) 7 0)))] sz)) (va_A [(h0, .inr (10, [.ref (fa0 0), .ref (fa0 1), .ref (fa0 2), .ref (fa0 20), .ref (fa0 21), .ref (fa0 16), .ref (fa0 17), .ref (fa0 22), .ref (fa0 23), .ref (fa0 18), .ref (fa0 24), .ref (fa0 25), .ref (fa0 19), .int 0, .int 0, .int (-1), .int 0, .int 0, .int 0])), ((fa0 19), .inl (cI, 8, .inl (upd (upd (upd (upd (upd (upd (upd (upd (fun _ => 0) 0 (-1)) 1 0) 2 0) 3 0) 4 (-1)) 5 0) 6 0) 7 0)))] sz)) 0 0 (va_A [(h0, .inr (10, [.ref (fa0 0), .ref (fa0 1), .ref (fa0 2), .ref (fa0 20), .ref (fa0 21), .ref (fa0 16), .ref (fa0 17), .ref (fa0 22), .ref (fa0 23), .ref (fa0 18), .ref (fa0 24), .ref (fa0 25), .ref (fa0 19), .int 0, .int 0, .int (-1), .int 0, .int 0, .int 0])), ((fa0 19), .inl (cI, 8, .inl (upd (upd (upd (upd (upd (upd (upd (upd (fun _ => 0) 0 (-1)) 1 0) 2 0) 3 0) 4 (-1)) 5 0) 6 0) 7 0)))] sz) := by
  refine Met.ofW (cc := cX10_told) (maxL := 2) (ret := (some .int)) (by decide) rfl ?_
  intro p e s m args below meth c s₁ B hml hv
  obtain ⟨rfl, hsz, hP, hK, hD0⟩ := hv
  have hx := B.exec
  have hb := B.bytes
  have hr := B.returns
  have hts := atoms_spec (ws := wq_X10_told_6) B.pre
  have hown : s.vm.findClass RX10 = some m.cls := findClass_of_methodNamed B.named
  have hlocks := B.notSynchronized
  subst hsz
  have hD := hD0.self (sz := s.heap.size)
  generalize hAe : va_A [(h0, .inr (10, [.ref (fa0 0), .ref (fa0 1), .ref (fa0 2), .ref (fa0 20), .ref (fa0 21), .ref (fa0 16), .ref (fa0 17), .ref (fa0 22), .ref (fa0 23), .ref (fa0 18), .ref (fa0 24), .ref (fa0 25), .ref (fa0 19), .int 0, .int 0, .int (-1), .int 0, .int 0, .int 0])), ((fa0 19), .inl (cI, 8, .inl (upd (upd (upd (upd (upd (upd (upd (upd (fun _ => 0) 0 (-1)) 1 0) 2 0) 3 0) 4 (-1)) 5 0) 6 0) 7 0)))] s.heap.size = A at hD ⊢
  have hA : ∀ q : Nat, s.heap.size ≤ q → A q := fun q h => by rw [← hAe]; exact Or.inr h
  have hS : va_S A s.heap s.heap [] := va_S.rf
  have hP : va_P (dC, dI) vwCl [(h0, .inr (10, [.ref (fa0 0), .ref (fa0 1), .ref (fa0 2), .ref (fa0 20), .ref (fa0 21), .ref (fa0 16), .ref (fa0 17), .ref (fa0 22), .ref (fa0 23), .ref (fa0 18), .ref (fa0 24), .ref (fa0 25), .ref (fa0 19), .int 0, .int 0, .int (-1), .int 0, .int 0, .int 0])), ((fa0 19), .inl (cI, 8, .inl (upd (upd (upd (upd (upd (upd (upd (upd (fun _ => 0) 0 (-1)) 1 0) 2 0) 3 0) 4 (-1)) 5 0) 6 0) 7 0)))] s.heap := hP
  obtain ⟨H, hH⟩ : ∃ H, H = s.heap := ⟨_, rfl⟩
  rw [← hH] at hP
  have hS : va_S A s.heap H [] := by rw [hH]; exact hS
  have hl := lv_entry ([.ref h0, .int 6]) (n := 2) (Nat.le_of_ble_eq_true rfl)
  rw [lg_entry_eq]
  generalize (lg_sl ([.ref h0, .int 6]) ++ List.replicate (2 - (lg_sl ([.ref h0, .int 6])).length) Slot.unset).toArray = ls at hl ⊢
  have hl : lv_has ls 2 [(0, .ref h0), (1, .int 6)] := hl
  refine pq_heap hH ?_
  refine lv_iload_n hx hb dX10_told_0 rfl (lv_at hl 1 rfl) ?_
  refine lv_if_lt (tgt := 22) hx hb dX10_told_1 (by decide) (fun c_ => absurd c_ (by decide)) (fun _ => ?_)
  refine lv_iload_n hx hb dX10_told_4 rfl (lv_at hl 1 rfl) ?_
  refine lv_aload_n hx hb dX10_told_5 rfl (lv_at hl 0 rfl) ?_
  refine va_get (D := (dC, dI)) (ci := 10) (v := .ref (fa0 19)) (C := RX10) (T := TX10) (N := 19) hx hb hts iq_X10_told_6_X10 hown hK hP 0 rfl rfl 12 (by decide) (hts (Cond.fieldLink RX10 97 "CodePress" "tale" "[I") (List.mem_of_getElem? (i := 1) rfl)) (fun _ h9 => h9) rfl dX10_told_6 ?_
  refine va_alen (v := 8) (ty := .int) hx hb hK hP 1 1 rfl rfl (by decide) dX10_told_9 ?_
  refine lv_icmp_ge (tgt := 22) hx hb dX10_told_10 (by decide) (fun c_ => absurd c_ (by decide)) (fun _ => ?_)
  refine lv_aload_n hx hb dX10_told_13 rfl (lv_at hl 0 rfl) ?_
  refine va_get (D := (dC, dI)) (ci := 10) (v := .ref (fa0 19)) (C := RX10) (T := TX10) (N := 19) hx hb hts iq_X10_told_6_X10 hown hK hP 0 rfl rfl 12 (by decide) (hts (Cond.fieldLink RX10 97 "CodePress" "tale" "[I") (List.mem_of_getElem? (i := 1) rfl)) (fun _ h9 => h9) rfl dX10_told_14 ?_
  refine lv_iload_n hx hb dX10_told_17 rfl (lv_at hl 1 rfl) ?_
  refine va_iald hx hb hK hP 1 1 rfl rfl (pq_in (by decide)) dX10_told_18 ?_
  refine lv_topi (fun x1 ex1 => ?_)
  obtain rfl : x1 = 0 := ex1.trans (by decide)
  refine lv_goto (tgt := 23) hx hb dX10_told_19 (by decide) ?_
  have hP9 := pq_P.pick (wc := [(h0, .inr (10, [.ref (fa0 0), .ref (fa0 1), .ref (fa0 2), .ref (fa0 20), .ref (fa0 21), .ref (fa0 16), .ref (fa0 17), .ref (fa0 22), .ref (fa0 23), .ref (fa0 18), .ref (fa0 24), .ref (fa0 25), .ref (fa0 19), .int 0, .int 0, .int (-1), .int 0, .int 0, .int 0])), ((fa0 19), .inl (cI, 8, .inl (upd (upd (upd (upd (upd (upd (upd (upd (fun _ => 0) 0 (-1)) 1 0) 2 0) 3 0) 4 (-1)) 5 0) 6 0) 7 0)))]) hP [0, 1] rfl
  have hD9 := hD.sub (ws' := [(h0, .inr (10, [.ref (fa0 0), .ref (fa0 1), .ref (fa0 2), .ref (fa0 20), .ref (fa0 21), .ref (fa0 16), .ref (fa0 17), .ref (fa0 22), .ref (fa0 23), .ref (fa0 18), .ref (fa0 24), .ref (fa0 25), .ref (fa0 19), .int 0, .int 0, .int (-1), .int 0, .int 0, .int 0])), ((fa0 19), .inl (cI, 8, .inl (upd (upd (upd (upd (upd (upd (upd (upd (fun _ => 0) 0 (-1)) 1 0) 2 0) 3 0) 4 (-1)) 5 0) 6 0) 7 0)))]) [0, 1] (by decide) rfl
  refine W.widen (k := 0) (n := 0) (by decide +kernel) (by decide +kernel) ?_
  exact W.iret (v := 0) hx hb hr (fun t ht hW => ⟨⟨0, sq_u [] [], rfl, rfl, pq_B.of ht hP9 hD9⟩, hS.F ht⟩) hS.2.2 dX10_told_23
def wq_X10_told_7_r1 : List Cond := [Cond.fieldLink RX10 97 "CodePress" "tale" "[I"]
def wq_X10_told_7 : List Cond := Cond.code yX10_told cX10_told 2 (some .int) :: (wq_X10_told_7_r1 ++ wsX100)
theorem iq_X10_told_7_X10 : ∀ w ∈ wsX100, w ∈ wq_X10_told_7 := fun _ h => List.mem_cons_of_mem _ (List.mem_append_right _ h)
set_option maxHeartbeats 4000000 in
set_option maxRecDepth 100000 in
theorem cq_X10_told_7 (l : Launch) (dC : Nat → ClassId) (dI : Nat → Nat → Nat) (cB cI cJ cZ : ClassId) (h0 : Nat) (fa0 : Nat → Nat) (sz : Nat) : Met l yX10_told wq_X10_told_7 ({ frames := 0, cells := 0, slots := 0, locals := 0 }) (va_Pc [.ref h0, .int 7] (pq_W (dC, dI) vwCl (tyQ cB cI cJ cZ) [(h0, .inr (10, [.ref (fa0 0), .ref (fa0 1), .ref (fa0 2), .ref (fa0 20), .ref (fa0 21), .ref (fa0 16), .ref (fa0 17), .ref (fa0 22), .ref (fa0 23), .ref (fa0 18), .ref (fa0 24), .ref (fa0 25), .ref (fa0 19), .int 0, .int 0, .int (-1), .int 0, .int 0, .int 0])), ((fa0 19), .inl (cI, 8, .inl (upd (upd (upd (upd (upd (upd (upd (upd (fun _ => 0) 0 (-1)) 1 0) 2 0) 3 0) 4 (-1)) 5 0) 6 0) 7 0)))] sz)) (va_Qi (fun (r : Int32) (_ : SQ) => r = 0) (fun u => pq_B (dC, dI) vwCl [(h0, .inr (10, [.ref (fa0 0), .ref (fa0 1), .ref (fa0 2), .ref (fa0 20), .ref (fa0 21), .ref (fa0 16), .ref (fa0 17), .ref (fa0 22), .ref (fa0 23), .ref (fa0 18), .ref (fa0 24), .ref (fa0 25), .ref (fa0 19), .int 0, .int 0, .int (-1), .int 0, .int 0, .int 0])), ((fa0 19), .inl (cI, 8, .inl (upd (upd (upd (upd (upd (upd (upd (upd (fun _ => 0) 0 (-1)) 1 0) 2 0) 3 0) 4 (-1)) 5 0) 6 0) 7 0)))] (va_A [(h0, .inr (10, [.ref (fa0 0), .ref (fa0 1), .ref (fa0 2), .ref (fa0 20), .ref (fa0 21), .ref (fa0 16), .ref (fa0 17), .ref (fa0 22), .ref (fa0 23), .ref (fa0 18), .ref (fa0 24), .ref (fa0 25), .ref (fa0 19), .int 0, .int 0, .int (-1), .int 0, .int 0, .int 0])), ((fa0 19), .inl (cI, 8, .inl (upd (upd (upd (upd (upd (upd (upd (upd (fun _ => 0) 0 (-1)) 1 0) 2 0) 3 0) 4 (-1)) 5 0) 6 0) 7 0)))] sz)) (va_A [(h0, .inr (10, [.ref (fa0 0), .ref (fa0 1), .ref (fa0 2), .ref (fa0 20), .ref (fa0 21), .ref (fa0 16), .ref (fa0 17), .ref (fa0 22), .ref (fa0 23), .ref (fa0 18), .ref (fa0 24), .ref (fa0 25), .ref (fa0 19), .int 0, .int 0, .int (-1), .int 0, .int 0, .int 0])), ((fa0 19), .inl (cI, 8, .inl (upd (upd (upd (upd (upd (upd (upd (upd (fun _ => 0) 0 (-1)) 1 0) 2 0) 3 0) 4 (-1)) 5 0) 6 0) 7 0)))] sz)) 0 0 (va_A [(h0, .inr (10, [.ref (fa0 0), .ref (fa0 1), .ref (fa0 2), .ref (fa0 20), .ref (fa0 21), .ref (fa0 16), .ref (fa0 17), .ref (fa0 22), .ref (fa0 23), .ref (fa0 18), .ref (fa0 24), .ref (fa0 25), .ref (fa0 19), .int 0, .int 0, .int (-1), .int 0, .int 0, .int 0])), ((fa0 19), .inl (cI, 8, .inl (upd (upd (upd (upd (upd (upd (upd (upd (fun _ => 0) 0 (-1)) 1 0) 2 0) 3 0) 4 (-1)) 5 0) 6 0) 7 0)))] sz) := by
  refine Met.ofW (cc := cX10_told) (maxL := 2) (ret := (some .int)) (by decide) rfl ?_
  intro p e s m args below meth c s₁ B hml hv
  obtain ⟨rfl, hsz, hP, hK, hD0⟩ := hv
  have hx := B.exec
  have hb := B.bytes
  have hr := B.returns
  have hts := atoms_spec (ws := wq_X10_told_7) B.pre
  have hown : s.vm.findClass RX10 = some m.cls := findClass_of_methodNamed B.named
  have hlocks := B.notSynchronized
  subst hsz
  have hD := hD0.self (sz := s.heap.size)
  generalize hAe : va_A [(h0, .inr (10, [.ref (fa0 0), .ref (fa0 1), .ref (fa0 2), .ref (fa0 20), .ref (fa0 21), .ref (fa0 16), .ref (fa0 17), .ref (fa0 22), .ref (fa0 23), .ref (fa0 18), .ref (fa0 24), .ref (fa0 25), .ref (fa0 19), .int 0, .int 0, .int (-1), .int 0, .int 0, .int 0])), ((fa0 19), .inl (cI, 8, .inl (upd (upd (upd (upd (upd (upd (upd (upd (fun _ => 0) 0 (-1)) 1 0) 2 0) 3 0) 4 (-1)) 5 0) 6 0) 7 0)))] s.heap.size = A at hD ⊢
  have hA : ∀ q : Nat, s.heap.size ≤ q → A q := fun q h => by rw [← hAe]; exact Or.inr h
  have hS : va_S A s.heap s.heap [] := va_S.rf
  have hP : va_P (dC, dI) vwCl [(h0, .inr (10, [.ref (fa0 0), .ref (fa0 1), .ref (fa0 2), .ref (fa0 20), .ref (fa0 21), .ref (fa0 16), .ref (fa0 17), .ref (fa0 22), .ref (fa0 23), .ref (fa0 18), .ref (fa0 24), .ref (fa0 25), .ref (fa0 19), .int 0, .int 0, .int (-1), .int 0, .int 0, .int 0])), ((fa0 19), .inl (cI, 8, .inl (upd (upd (upd (upd (upd (upd (upd (upd (fun _ => 0) 0 (-1)) 1 0) 2 0) 3 0) 4 (-1)) 5 0) 6 0) 7 0)))] s.heap := hP
  obtain ⟨H, hH⟩ : ∃ H, H = s.heap := ⟨_, rfl⟩
  rw [← hH] at hP
  have hS : va_S A s.heap H [] := by rw [hH]; exact hS
  have hl := lv_entry ([.ref h0, .int 7]) (n := 2) (Nat.le_of_ble_eq_true rfl)
  rw [lg_entry_eq]
  generalize (lg_sl ([.ref h0, .int 7]) ++ List.replicate (2 - (lg_sl ([.ref h0, .int 7])).length) Slot.unset).toArray = ls at hl ⊢
  have hl : lv_has ls 2 [(0, .ref h0), (1, .int 7)] := hl
  refine pq_heap hH ?_
  refine lv_iload_n hx hb dX10_told_0 rfl (lv_at hl 1 rfl) ?_
  refine lv_if_lt (tgt := 22) hx hb dX10_told_1 (by decide) (fun c_ => absurd c_ (by decide)) (fun _ => ?_)
  refine lv_iload_n hx hb dX10_told_4 rfl (lv_at hl 1 rfl) ?_
  refine lv_aload_n hx hb dX10_told_5 rfl (lv_at hl 0 rfl) ?_
  refine va_get (D := (dC, dI)) (ci := 10) (v := .ref (fa0 19)) (C := RX10) (T := TX10) (N := 19) hx hb hts iq_X10_told_7_X10 hown hK hP 0 rfl rfl 12 (by decide) (hts (Cond.fieldLink RX10 97 "CodePress" "tale" "[I") (List.mem_of_getElem? (i := 1) rfl)) (fun _ h9 => h9) rfl dX10_told_6 ?_
  refine va_alen (v := 8) (ty := .int) hx hb hK hP 1 1 rfl rfl (by decide) dX10_told_9 ?_
  refine lv_icmp_ge (tgt := 22) hx hb dX10_told_10 (by decide) (fun c_ => absurd c_ (by decide)) (fun _ => ?_)
  refine lv_aload_n hx hb dX10_told_13 rfl (lv_at hl 0 rfl) ?_
  refine va_get (D := (dC, dI)) (ci := 10) (v := .ref (fa0 19)) (C := RX10) (T := TX10) (N := 19) hx hb hts iq_X10_told_7_X10 hown hK hP 0 rfl rfl 12 (by decide) (hts (Cond.fieldLink RX10 97 "CodePress" "tale" "[I") (List.mem_of_getElem? (i := 1) rfl)) (fun _ h9 => h9) rfl dX10_told_14 ?_
  refine lv_iload_n hx hb dX10_told_17 rfl (lv_at hl 1 rfl) ?_
  refine va_iald hx hb hK hP 1 1 rfl rfl (pq_in (by decide)) dX10_told_18 ?_
  refine lv_topi (fun x1 ex1 => ?_)
  obtain rfl : x1 = 0 := ex1.trans (by decide)
  refine lv_goto (tgt := 23) hx hb dX10_told_19 (by decide) ?_
  have hP9 := pq_P.pick (wc := [(h0, .inr (10, [.ref (fa0 0), .ref (fa0 1), .ref (fa0 2), .ref (fa0 20), .ref (fa0 21), .ref (fa0 16), .ref (fa0 17), .ref (fa0 22), .ref (fa0 23), .ref (fa0 18), .ref (fa0 24), .ref (fa0 25), .ref (fa0 19), .int 0, .int 0, .int (-1), .int 0, .int 0, .int 0])), ((fa0 19), .inl (cI, 8, .inl (upd (upd (upd (upd (upd (upd (upd (upd (fun _ => 0) 0 (-1)) 1 0) 2 0) 3 0) 4 (-1)) 5 0) 6 0) 7 0)))]) hP [0, 1] rfl
  have hD9 := hD.sub (ws' := [(h0, .inr (10, [.ref (fa0 0), .ref (fa0 1), .ref (fa0 2), .ref (fa0 20), .ref (fa0 21), .ref (fa0 16), .ref (fa0 17), .ref (fa0 22), .ref (fa0 23), .ref (fa0 18), .ref (fa0 24), .ref (fa0 25), .ref (fa0 19), .int 0, .int 0, .int (-1), .int 0, .int 0, .int 0])), ((fa0 19), .inl (cI, 8, .inl (upd (upd (upd (upd (upd (upd (upd (upd (fun _ => 0) 0 (-1)) 1 0) 2 0) 3 0) 4 (-1)) 5 0) 6 0) 7 0)))]) [0, 1] (by decide) rfl
  refine W.widen (k := 0) (n := 0) (by decide +kernel) (by decide +kernel) ?_
  exact W.iret (v := 0) hx hb hr (fun t ht hW => ⟨⟨0, sq_u [] [], rfl, rfl, pq_B.of ht hP9 hD9⟩, hS.F ht⟩) hS.2.2 dX10_told_23
def wq_X10_told_8 : List Cond := Cond.code yX10_told cX10_told 2 (some .int) :: (([] : List Cond))
set_option maxHeartbeats 4000000 in
set_option maxRecDepth 100000 in
theorem cq_X10_told_8 (l : Launch) (dC : Nat → ClassId) (dI : Nat → Nat → Nat) (cB cI cJ cZ : ClassId) (a0 : Nat) (x0 : Int32) (sz : Nat) (k1 : x0 < 0) (k2 : x0.toInt < 0 ∨ 7 < x0.toInt) : Met l yX10_told wq_X10_told_8 ({ frames := 0, cells := 0, slots := 0, locals := 0 }) (va_Pc [.ref a0, .int x0] (pq_W (dC, dI) vwCl (tyQ cB cI cJ cZ) [] sz)) (va_Qi (fun (r : Int32) (_ : SQ) => r = (-1)) (fun u => pq_B (dC, dI) vwCl [] (va_A [] sz)) (va_A [] sz)) 0 0 (va_A [] sz) := by
  refine Met.ofW (cc := cX10_told) (maxL := 2) (ret := (some .int)) (by decide) rfl ?_
  intro p e s m args below meth c s₁ B hml hv
  obtain ⟨rfl, hsz, hP, hK, hD0⟩ := hv
  have hx := B.exec
  have hb := B.bytes
  have hr := B.returns
  have hts := atoms_spec (ws := wq_X10_told_8) B.pre
  have hown : s.vm.findClass RX10 = some m.cls := findClass_of_methodNamed B.named
  have hlocks := B.notSynchronized
  subst hsz
  have hD := hD0.self (sz := s.heap.size)
  generalize hAe : va_A [] s.heap.size = A at hD ⊢
  have hA : ∀ q : Nat, s.heap.size ≤ q → A q := fun q h => by rw [← hAe]; exact Or.inr h
  have hS : va_S A s.heap s.heap [] := va_S.rf
  have hP : va_P (dC, dI) vwCl [] s.heap := hP
  obtain ⟨H, hH⟩ : ∃ H, H = s.heap := ⟨_, rfl⟩
  rw [← hH] at hP
  have hS : va_S A s.heap H [] := by rw [hH]; exact hS
  have hl := lv_entry ([.ref a0, .int x0]) (n := 2) (Nat.le_of_ble_eq_true rfl)
  rw [lg_entry_eq]
  generalize (lg_sl ([.ref a0, .int x0]) ++ List.replicate (2 - (lg_sl ([.ref a0, .int x0])).length) Slot.unset).toArray = ls at hl ⊢
  have hl : lv_has ls 2 [(0, .ref a0), (1, .int x0)] := hl
  refine pq_heap hH ?_
  refine lv_iload_n hx hb dX10_told_0 rfl (lv_at hl 1 rfl) ?_
  refine lv_if_lt (tgt := 22) hx hb dX10_told_1 (by decide) (fun _ => ?_) (fun c_ => absurd k1 c_)
  refine lv_iconst (v := (-1)) hx hb dX10_told_22 (by decide) ?_
  have hP9 := pq_P.pick (wc := []) hP [] rfl
  have hD9 := hD.sub (ws' := []) [] (by decide) rfl
  refine W.widen (k := 0) (n := 0) (by decide +kernel) (by decide +kernel) ?_
  exact W.iret (v := (-1)) hx hb hr (fun t ht hW => ⟨⟨(-1), sq_u [] [], rfl, rfl, pq_B.of ht hP9 hD9⟩, hS.F ht⟩) hS.2.2 dX10_told_23
def wq_X10_told_9_r1 : List Cond := [Cond.fieldLink RX10 97 "CodePress" "tale" "[I"]
def wq_X10_told_9 : List Cond := Cond.code yX10_told cX10_told 2 (some .int) :: (wq_X10_told_9_r1 ++ wsX100)
theorem iq_X10_told_9_X10 : ∀ w ∈ wsX100, w ∈ wq_X10_told_9 := fun _ h => List.mem_cons_of_mem _ (List.mem_append_right _ h)
set_option maxHeartbeats 4000000 in
set_option maxRecDepth 100000 in
theorem cq_X10_told_9 (l : Launch) (dC : Nat → ClassId) (dI : Nat → Nat → Nat) (cB cI cJ cZ : ClassId) (h0 : Nat) (fa0 : Nat → Nat) (x0 : Int32) (sz : Nat) (k1 : ¬ x0 < 0) (k2 : x0.toInt < 0 ∨ 7 < x0.toInt) (k3 : 8 ≤ x0) : Met l yX10_told wq_X10_told_9 ({ frames := 0, cells := 0, slots := 0, locals := 0 }) (va_Pc [.ref h0, .int x0] (pq_W (dC, dI) vwCl (tyQ cB cI cJ cZ) [(h0, .inr (10, [.ref (fa0 0), .ref (fa0 1), .ref (fa0 2), .ref (fa0 20), .ref (fa0 21), .ref (fa0 16), .ref (fa0 17), .ref (fa0 22), .ref (fa0 23), .ref (fa0 18), .ref (fa0 24), .ref (fa0 25), .ref (fa0 19), .int 0, .int 0, .int (-1), .int 0, .int 0, .int 0])), ((fa0 19), .inl (cI, 8, .inl (upd (upd (upd (upd (upd (upd (upd (upd (fun _ => 0) 0 (-1)) 1 0) 2 0) 3 0) 4 (-1)) 5 0) 6 0) 7 0)))] sz)) (va_Qi (fun (r : Int32) (_ : SQ) => r = (-1)) (fun u => pq_B (dC, dI) vwCl [(h0, .inr (10, [.ref (fa0 0), .ref (fa0 1), .ref (fa0 2), .ref (fa0 20), .ref (fa0 21), .ref (fa0 16), .ref (fa0 17), .ref (fa0 22), .ref (fa0 23), .ref (fa0 18), .ref (fa0 24), .ref (fa0 25), .ref (fa0 19), .int 0, .int 0, .int (-1), .int 0, .int 0, .int 0])), ((fa0 19), .inl (cI, 8, .inl (upd (upd (upd (upd (upd (upd (upd (upd (fun _ => 0) 0 (-1)) 1 0) 2 0) 3 0) 4 (-1)) 5 0) 6 0) 7 0)))] (va_A [(h0, .inr (10, [.ref (fa0 0), .ref (fa0 1), .ref (fa0 2), .ref (fa0 20), .ref (fa0 21), .ref (fa0 16), .ref (fa0 17), .ref (fa0 22), .ref (fa0 23), .ref (fa0 18), .ref (fa0 24), .ref (fa0 25), .ref (fa0 19), .int 0, .int 0, .int (-1), .int 0, .int 0, .int 0])), ((fa0 19), .inl (cI, 8, .inl (upd (upd (upd (upd (upd (upd (upd (upd (fun _ => 0) 0 (-1)) 1 0) 2 0) 3 0) 4 (-1)) 5 0) 6 0) 7 0)))] sz)) (va_A [(h0, .inr (10, [.ref (fa0 0), .ref (fa0 1), .ref (fa0 2), .ref (fa0 20), .ref (fa0 21), .ref (fa0 16), .ref (fa0 17), .ref (fa0 22), .ref (fa0 23), .ref (fa0 18), .ref (fa0 24), .ref (fa0 25), .ref (fa0 19), .int 0, .int 0, .int (-1), .int 0, .int 0, .int 0])), ((fa0 19), .inl (cI, 8, .inl (upd (upd (upd (upd (upd (upd (upd (upd (fun _ => 0) 0 (-1)) 1 0) 2 0) 3 0) 4 (-1)) 5 0) 6 0) 7 0)))] sz)) 0 0 (va_A [(h0, .inr (10, [.ref (fa0 0), .ref (fa0 1), .ref (fa0 2), .ref (fa0 20), .ref (fa0 21), .ref (fa0 16), .ref (fa0 17), .ref (fa0 22), .ref (fa0 23), .ref (fa0 18), .ref (fa0 24), .ref (fa0 25), .ref (fa0 19), .int 0, .int 0, .int (-1), .int 0, .int 0, .int 0])), ((fa0 19), .inl (cI, 8, .inl (upd (upd (upd (upd (upd (upd (upd (upd (fun _ => 0) 0 (-1)) 1 0) 2 0) 3 0) 4 (-1)) 5 0) 6 0) 7 0)))] sz) := by
  refine Met.ofW (cc := cX10_told) (maxL := 2) (ret := (some .int)) (by decide) rfl ?_
  intro p e s m args below meth c s₁ B hml hv
  obtain ⟨rfl, hsz, hP, hK, hD0⟩ := hv
  have hx := B.exec
  have hb := B.bytes
  have hr := B.returns
  have hts := atoms_spec (ws := wq_X10_told_9) B.pre
  have hown : s.vm.findClass RX10 = some m.cls := findClass_of_methodNamed B.named
  have hlocks := B.notSynchronized
  subst hsz
  have hD := hD0.self (sz := s.heap.size)
  generalize hAe : va_A [(h0, .inr (10, [.ref (fa0 0), .ref (fa0 1), .ref (fa0 2), .ref (fa0 20), .ref (fa0 21), .ref (fa0 16), .ref (fa0 17), .ref (fa0 22), .ref (fa0 23), .ref (fa0 18), .ref (fa0 24), .ref (fa0 25), .ref (fa0 19), .int 0, .int 0, .int (-1), .int 0, .int 0, .int 0])), ((fa0 19), .inl (cI, 8, .inl (upd (upd (upd (upd (upd (upd (upd (upd (fun _ => 0) 0 (-1)) 1 0) 2 0) 3 0) 4 (-1)) 5 0) 6 0) 7 0)))] s.heap.size = A at hD ⊢
  have hA : ∀ q : Nat, s.heap.size ≤ q → A q := fun q h => by rw [← hAe]; exact Or.inr h
  have hS : va_S A s.heap s.heap [] := va_S.rf
  have hP : va_P (dC, dI) vwCl [(h0, .inr (10, [.ref (fa0 0), .ref (fa0 1), .ref (fa0 2), .ref (fa0 20), .ref (fa0 21), .ref (fa0 16), .ref (fa0 17), .ref (fa0 22), .ref (fa0 23), .ref (fa0 18), .ref (fa0 24), .ref (fa0 25), .ref (fa0 19), .int 0, .int 0, .int (-1), .int 0, .int 0, .int 0])), ((fa0 19), .inl (cI, 8, .inl (upd (upd (upd (upd (upd (upd (upd (upd (fun _ => 0) 0 (-1)) 1 0) 2 0) 3 0) 4 (-1)) 5 0) 6 0) 7 0)))] s.heap := hP
  obtain ⟨H, hH⟩ : ∃ H, H = s.heap := ⟨_, rfl⟩
  rw [← hH] at hP
  have hS : va_S A s.heap H [] := by rw [hH]; exact hS
  have hl := lv_entry ([.ref h0, .int x0]) (n := 2) (Nat.le_of_ble_eq_true rfl)
  rw [lg_entry_eq]
  generalize (lg_sl ([.ref h0, .int x0]) ++ List.replicate (2 - (lg_sl ([.ref h0, .int x0])).length) Slot.unset).toArray = ls at hl ⊢
  have hl : lv_has ls 2 [(0, .ref h0), (1, .int x0)] := hl
  refine pq_heap hH ?_
  refine lv_iload_n hx hb dX10_told_0 rfl (lv_at hl 1 rfl) ?_
  refine lv_if_lt (tgt := 22) hx hb dX10_told_1 (by decide) (fun c_ => absurd c_ k1) (fun _ => ?_)
  refine lv_iload_n hx hb dX10_told_4 rfl (lv_at hl 1 rfl) ?_
  refine lv_aload_n hx hb dX10_told_5 rfl (lv_at hl 0 rfl) ?_
  refine va_get (D := (dC, dI)) (ci := 10) (v := .ref (fa0 19)) (C := RX10) (T := TX10) (N := 19) hx hb hts iq_X10_told_9_X10 hown hK hP 0 rfl rfl 12 (by decide) (hts (Cond.fieldLink RX10 97 "CodePress" "tale" "[I") (List.mem_of_getElem? (i := 1) rfl)) (fun _ h9 => h9) rfl dX10_told_6 ?_
  refine va_alen (v := 8) (ty := .int) hx hb hK hP 1 1 rfl rfl (by decide) dX10_told_9 ?_
  refine lv_icmp_ge (tgt := 22) hx hb dX10_told_10 (by decide) (fun _ => ?_) (fun c_ => absurd k3 c_)
  refine lv_iconst (v := (-1)) hx hb dX10_told_22 (by decide) ?_
  have hP9 := pq_P.pick (wc := [(h0, .inr (10, [.ref (fa0 0), .ref (fa0 1), .ref (fa0 2), .ref (fa0 20), .ref (fa0 21), .ref (fa0 16), .ref (fa0 17), .ref (fa0 22), .ref (fa0 23), .ref (fa0 18), .ref (fa0 24), .ref (fa0 25), .ref (fa0 19), .int 0, .int 0, .int (-1), .int 0, .int 0, .int 0])), ((fa0 19), .inl (cI, 8, .inl (upd (upd (upd (upd (upd (upd (upd (upd (fun _ => 0) 0 (-1)) 1 0) 2 0) 3 0) 4 (-1)) 5 0) 6 0) 7 0)))]) hP [0, 1] rfl
  have hD9 := hD.sub (ws' := [(h0, .inr (10, [.ref (fa0 0), .ref (fa0 1), .ref (fa0 2), .ref (fa0 20), .ref (fa0 21), .ref (fa0 16), .ref (fa0 17), .ref (fa0 22), .ref (fa0 23), .ref (fa0 18), .ref (fa0 24), .ref (fa0 25), .ref (fa0 19), .int 0, .int 0, .int (-1), .int 0, .int 0, .int 0])), ((fa0 19), .inl (cI, 8, .inl (upd (upd (upd (upd (upd (upd (upd (upd (fun _ => 0) 0 (-1)) 1 0) 2 0) 3 0) 4 (-1)) 5 0) 6 0) 7 0)))]) [0, 1] (by decide) rfl
  refine W.widen (k := 0) (n := 0) (by decide +kernel) (by decide +kernel) ?_
  exact W.iret (v := (-1)) hx hb hr (fun t ht hW => ⟨⟨(-1), sq_u [] [], rfl, rfl, pq_B.of ht hP9 hD9⟩, hS.F ht⟩) hS.2.2 dX10_told_23
def wq_X10_type_r1 : List Cond := [Cond.fieldLink RX10 159 "CodePress" "asked" "Z"]
def wq_X10_type : List Cond := Cond.code yX10_type cX10_type 3 (some .int) :: (wq_X10_type_r1 ++ wsX100)
theorem iq_X10_type_X10 : ∀ w ∈ wsX100, w ∈ wq_X10_type := fun _ h => List.mem_cons_of_mem _ (List.mem_append_right _ h)
set_option maxHeartbeats 4000000 in
set_option maxRecDepth 100000 in
theorem cq_X10_type (l : Launch) (dC : Nat → ClassId) (dI : Nat → Nat → Nat) (cB cI cJ cZ : ClassId) (h0 : Nat) (x0 : Int32) (fa0 : Nat → Nat) (sz : Nat) : Met l yX10_type wq_X10_type ({ frames := 0, cells := 0, slots := 0, locals := 0 }) (va_Pc [.ref h0, .int 0, .int x0] (pq_W (dC, dI) vwCl (tyQ cB cI cJ cZ) [(h0, .inr (10, [.ref (fa0 0), .ref (fa0 1), .ref (fa0 2), .ref (fa0 20), .ref (fa0 21), .ref (fa0 16), .ref (fa0 17), .ref (fa0 22), .ref (fa0 23), .ref (fa0 18), .ref (fa0 24), .ref (fa0 25), .ref (fa0 19), .int 0, .int 0, .int (-1), .int 0, .int 0, .int 0]))] sz)) (va_Qi (fun (r : Int32) (_ : SQ) => r = (-1)) (fun u => pq_B (dC, dI) vwCl [(h0, .inr (10, [.ref (fa0 0), .ref (fa0 1), .ref (fa0 2), .ref (fa0 20), .ref (fa0 21), .ref (fa0 16), .ref (fa0 17), .ref (fa0 22), .ref (fa0 23), .ref (fa0 18), .ref (fa0 24), .ref (fa0 25), .ref (fa0 19), .int 0, .int 0, .int (-1), .int 0, .int 0, .int 0]))] (va_A [(h0, .inr (10, [.ref (fa0 0), .ref (fa0 1), .ref (fa0 2), .ref (fa0 20), .ref (fa0 21), .ref (fa0 16), .ref (fa0 17), .ref (fa0 22), .ref (fa0 23), .ref (fa0 18), .ref (fa0 24), .ref (fa0 25), .ref (fa0 19), .int 0, .int 0, .int (-1), .int 0, .int 0, .int 0]))] sz)) (va_A [(h0, .inr (10, [.ref (fa0 0), .ref (fa0 1), .ref (fa0 2), .ref (fa0 20), .ref (fa0 21), .ref (fa0 16), .ref (fa0 17), .ref (fa0 22), .ref (fa0 23), .ref (fa0 18), .ref (fa0 24), .ref (fa0 25), .ref (fa0 19), .int 0, .int 0, .int (-1), .int 0, .int 0, .int 0]))] sz)) 0 0 (va_A [(h0, .inr (10, [.ref (fa0 0), .ref (fa0 1), .ref (fa0 2), .ref (fa0 20), .ref (fa0 21), .ref (fa0 16), .ref (fa0 17), .ref (fa0 22), .ref (fa0 23), .ref (fa0 18), .ref (fa0 24), .ref (fa0 25), .ref (fa0 19), .int 0, .int 0, .int (-1), .int 0, .int 0, .int 0]))] sz) := by
  refine Met.ofW (cc := cX10_type) (maxL := 3) (ret := (some .int)) (by decide) rfl ?_
  intro p e s m args below meth c s₁ B hml hv
  obtain ⟨rfl, hsz, hP, hK, hD0⟩ := hv
  have hx := B.exec
  have hb := B.bytes
  have hr := B.returns
  have hts := atoms_spec (ws := wq_X10_type) B.pre
  have hown : s.vm.findClass RX10 = some m.cls := findClass_of_methodNamed B.named
  have hlocks := B.notSynchronized
  subst hsz
  have hD := hD0.self (sz := s.heap.size)
  generalize hAe : va_A [(h0, .inr (10, [.ref (fa0 0), .ref (fa0 1), .ref (fa0 2), .ref (fa0 20), .ref (fa0 21), .ref (fa0 16), .ref (fa0 17), .ref (fa0 22), .ref (fa0 23), .ref (fa0 18), .ref (fa0 24), .ref (fa0 25), .ref (fa0 19), .int 0, .int 0, .int (-1), .int 0, .int 0, .int 0]))] s.heap.size = A at hD ⊢
  have hA : ∀ q : Nat, s.heap.size ≤ q → A q := fun q h => by rw [← hAe]; exact Or.inr h
  have hS : va_S A s.heap s.heap [] := va_S.rf
  have hP : va_P (dC, dI) vwCl [(h0, .inr (10, [.ref (fa0 0), .ref (fa0 1), .ref (fa0 2), .ref (fa0 20), .ref (fa0 21), .ref (fa0 16), .ref (fa0 17), .ref (fa0 22), .ref (fa0 23), .ref (fa0 18), .ref (fa0 24), .ref (fa0 25), .ref (fa0 19), .int 0, .int 0, .int (-1), .int 0, .int 0, .int 0]))] s.heap := hP
  obtain ⟨H, hH⟩ : ∃ H, H = s.heap := ⟨_, rfl⟩
  rw [← hH] at hP
  have hS : va_S A s.heap H [] := by rw [hH]; exact hS
  have hl := lv_entry ([.ref h0, .int 0, .int x0]) (n := 3) (Nat.le_of_ble_eq_true rfl)
  rw [lg_entry_eq]
  generalize (lg_sl ([.ref h0, .int 0, .int x0]) ++ List.replicate (3 - (lg_sl ([.ref h0, .int 0, .int x0])).length) Slot.unset).toArray = ls at hl ⊢
  have hl : lv_has ls 3 [(0, .ref h0), (1, .int 0), (2, .int x0)] := hl
  refine pq_heap hH ?_
  refine lv_iload_n hx hb dX10_type_0 rfl (lv_at hl 1 rfl) ?_
  refine lv_if_ne (tgt := 30) hx hb dX10_type_1 (by decide) (fun c_ => absurd (by decide) c_) (fun _ => ?_)
  refine lv_aload_n hx hb dX10_type_4 rfl (lv_at hl 0 rfl) ?_
  refine va_get (D := (dC, dI)) (ci := 10) (v := .int 0) (C := RX10) (T := TX10) (N := 19) hx hb hts iq_X10_type_X10 hown hK hP 0 rfl rfl 17 (by decide) (hts (Cond.fieldLink RX10 159 "CodePress" "asked" "Z") (List.mem_of_getElem? (i := 1) rfl)) (fun _ h9 => h9) rfl dX10_type_5 ?_
  refine lv_if_eq (tgt := 30) hx hb dX10_type_8 (by decide) (fun _ => ?_) (fun c_ => absurd (by decide) c_)
  refine lv_iload_n hx hb dX10_type_30 rfl (lv_at hl 1 rfl) ?_
  refine lv_iconst (v := 1) hx hb dX10_type_31 (by decide) ?_
  refine lv_icmp_ne (tgt := 97) hx hb dX10_type_32 (by decide) (fun _ => ?_) (fun c_ => absurd c_ (by decide))
  refine lv_iconst (v := (-1)) hx hb dX10_type_97 (by decide) ?_
  have hP9 := pq_P.pick (wc := [(h0, .inr (10, [.ref (fa0 0), .ref (fa0 1), .ref (fa0 2), .ref (fa0 20), .ref (fa0 21), .ref (fa0 16), .ref (fa0 17), .ref (fa0 22), .ref (fa0 23), .ref (fa0 18), .ref (fa0 24), .ref (fa0 25), .ref (fa0 19), .int 0, .int 0, .int (-1), .int 0, .int 0, .int 0]))]) hP [0] rfl
  have hD9 := hD.sub (ws' := [(h0, .inr (10, [.ref (fa0 0), .ref (fa0 1), .ref (fa0 2), .ref (fa0 20), .ref (fa0 21), .ref (fa0 16), .ref (fa0 17), .ref (fa0 22), .ref (fa0 23), .ref (fa0 18), .ref (fa0 24), .ref (fa0 25), .ref (fa0 19), .int 0, .int 0, .int (-1), .int 0, .int 0, .int 0]))]) [0] (by decide) rfl
  refine W.widen (k := 0) (n := 0) (by decide +kernel) (by decide +kernel) ?_
  exact W.iret (v := (-1)) hx hb hr (fun t ht hW => ⟨⟨(-1), sq_u [] [], rfl, rfl, pq_B.of ht hP9 hD9⟩, hS.F ht⟩) hS.2.2 dX10_type_98
def wq_X10_type_1 : List Cond := Cond.code yX10_type cX10_type 3 (some .int) :: (([] : List Cond))
set_option maxHeartbeats 4000000 in
set_option maxRecDepth 100000 in
theorem cq_X10_type_1 (l : Launch) (dC : Nat → ClassId) (dI : Nat → Nat → Nat) (cB cI cJ cZ : ClassId) (a0 : Nat) (x0 : Int32) (sz : Nat) (k2 : x0 < 0) : Met l yX10_type wq_X10_type_1 ({ frames := 0, cells := 0, slots := 0, locals := 0 }) (va_Pc [.ref a0, .int 1, .int x0] (pq_W (dC, dI) vwCl (tyQ cB cI cJ cZ) [] sz)) (va_Qi (fun (r : Int32) (_ : SQ) => r = (-1)) (fun u => pq_B (dC, dI) vwCl [] (va_A [] sz)) (va_A [] sz)) 0 0 (va_A [] sz) := by
  refine Met.ofW (cc := cX10_type) (maxL := 3) (ret := (some .int)) (by decide) rfl ?_
  intro p e s m args below meth c s₁ B hml hv
  obtain ⟨rfl, hsz, hP, hK, hD0⟩ := hv
  have hx := B.exec
  have hb := B.bytes
  have hr := B.returns
  have hts := atoms_spec (ws := wq_X10_type_1) B.pre
  have hown : s.vm.findClass RX10 = some m.cls := findClass_of_methodNamed B.named
  have hlocks := B.notSynchronized
  subst hsz
  have hD := hD0.self (sz := s.heap.size)
  generalize hAe : va_A [] s.heap.size = A at hD ⊢
  have hA : ∀ q : Nat, s.heap.size ≤ q → A q := fun q h => by rw [← hAe]; exact Or.inr h
  have hS : va_S A s.heap s.heap [] := va_S.rf
  have hP : va_P (dC, dI) vwCl [] s.heap := hP
  obtain ⟨H, hH⟩ : ∃ H, H = s.heap := ⟨_, rfl⟩
  rw [← hH] at hP
  have hS : va_S A s.heap H [] := by rw [hH]; exact hS
  have hl := lv_entry ([.ref a0, .int 1, .int x0]) (n := 3) (Nat.le_of_ble_eq_true rfl)
  rw [lg_entry_eq]
  generalize (lg_sl ([.ref a0, .int 1, .int x0]) ++ List.replicate (3 - (lg_sl ([.ref a0, .int 1, .int x0])).length) Slot.unset).toArray = ls at hl ⊢
  have hl : lv_has ls 3 [(0, .ref a0), (1, .int 1), (2, .int x0)] := hl
  refine pq_heap hH ?_
  refine lv_iload_n hx hb dX10_type_0 rfl (lv_at hl 1 rfl) ?_
  refine lv_if_ne (tgt := 30) hx hb dX10_type_1 (by decide) (fun _ => ?_) (fun c_ => absurd c_ (by decide))
  refine lv_iload_n hx hb dX10_type_30 rfl (lv_at hl 1 rfl) ?_
  refine lv_iconst (v := 1) hx hb dX10_type_31 (by decide) ?_
  refine lv_icmp_ne (tgt := 97) hx hb dX10_type_32 (by decide) (fun c_ => absurd (by decide) c_) (fun _ => ?_)
  refine lv_iload_n hx hb dX10_type_35 rfl (lv_at hl 2 rfl) ?_
  refine lv_if_lt (tgt := 97) hx hb dX10_type_36 (by decide) (fun _ => ?_) (fun c_ => absurd k2 c_)
  refine lv_iconst (v := (-1)) hx hb dX10_type_97 (by decide) ?_
  have hP9 := pq_P.pick (wc := []) hP [] rfl
  have hD9 := hD.sub (ws' := []) [] (by decide) rfl
  refine W.widen (k := 0) (n := 0) (by decide +kernel) (by decide +kernel) ?_
  exact W.iret (v := (-1)) hx hb hr (fun t ht hW => ⟨⟨(-1), sq_u [] [], rfl, rfl, pq_B.of ht hP9 hD9⟩, hS.F ht⟩) hS.2.2 dX10_type_98
def wq_X10_type_2_r1 : List Cond := [Cond.fieldLink RX10 23 "CodePress" "code" "LCodePress$Code;", Cond.fieldLink RX10 129 "CodePress$Code" "defCount" "[I", Cond.fieldLink RX10 112 "CodePress$Code" "known" "I"]
def wq_X10_type_2 : List Cond := Cond.code yX10_type cX10_type 3 (some .int) :: (wq_X10_type_2_r1 ++ wsX100 ++ wsX10)
theorem iq_X10_type_2_X10 : ∀ w ∈ wsX100, w ∈ wq_X10_type_2 := fun _ h => List.mem_cons_of_mem _ (List.mem_append_left _ (List.mem_append_right _ h))
theorem iq_X10_type_2_X1 : ∀ w ∈ wsX10, w ∈ wq_X10_type_2 := fun _ h => List.mem_cons_of_mem _ (List.mem_append_right _ h)
set_option maxHeartbeats 4000000 in
set_option maxRecDepth 100000 in
theorem cq_X10_type_2 (l : Launch) (dC : Nat → ClassId) (dI : Nat → Nat → Nat) (cB cI cJ cZ : ClassId) (h0 : Nat) (fa0 : Nat → Nat) (x0 : Int32) (sz : Nat) (k2 : ¬ x0 < 0) (k3 : 0 ≤ x0) : Met l yX10_type wq_X10_type_2 ({ frames := 0, cells := 0, slots := 0, locals := 0 }) (va_Pc [.ref h0, .int 1, .int x0] (pq_W (dC, dI) vwCl (tyQ cB cI cJ cZ) [(h0, .inr (10, [.ref (fa0 0), .ref (fa0 1), .ref (fa0 2), .ref (fa0 20), .ref (fa0 21), .ref (fa0 16), .ref (fa0 17), .ref (fa0 22), .ref (fa0 23), .ref (fa0 18), .ref (fa0 24), .ref (fa0 25), .ref (fa0 19), .int 0, .int 0, .int (-1), .int 0, .int 0, .int 0])), ((fa0 2), .inr (1, [.ref (fa0 3), .ref (fa0 4), .ref (fa0 5), .ref (fa0 6), .ref (fa0 7), .ref (fa0 8), .ref (fa0 9), .ref (fa0 31), .ref (fa0 10), .int 0, .int 1700, .int 0])), ((fa0 10), .inl (cI, 2, .inl (fun _ => 0)))] sz)) (va_Qi (fun (r : Int32) (_ : SQ) => r = (-1)) (fun u => pq_B (dC, dI) vwCl [(h0, .inr (10, [.ref (fa0 0), .ref (fa0 1), .ref (fa0 2), .ref (fa0 20), .ref (fa0 21), .ref (fa0 16), .ref (fa0 17), .ref (fa0 22), .ref (fa0 23), .ref (fa0 18), .ref (fa0 24), .ref (fa0 25), .ref (fa0 19), .int 0, .int 0, .int (-1), .int 0, .int 0, .int 0])), ((fa0 2), .inr (1, [.ref (fa0 3), .ref (fa0 4), .ref (fa0 5), .ref (fa0 6), .ref (fa0 7), .ref (fa0 8), .ref (fa0 9), .ref (fa0 31), .ref (fa0 10), .int 0, .int 1700, .int 0])), ((fa0 10), .inl (cI, 2, .inl (fun _ => 0)))] (va_A [(h0, .inr (10, [.ref (fa0 0), .ref (fa0 1), .ref (fa0 2), .ref (fa0 20), .ref (fa0 21), .ref (fa0 16), .ref (fa0 17), .ref (fa0 22), .ref (fa0 23), .ref (fa0 18), .ref (fa0 24), .ref (fa0 25), .ref (fa0 19), .int 0, .int 0, .int (-1), .int 0, .int 0, .int 0])), ((fa0 2), .inr (1, [.ref (fa0 3), .ref (fa0 4), .ref (fa0 5), .ref (fa0 6), .ref (fa0 7), .ref (fa0 8), .ref (fa0 9), .ref (fa0 31), .ref (fa0 10), .int 0, .int 1700, .int 0])), ((fa0 10), .inl (cI, 2, .inl (fun _ => 0)))] sz)) (va_A [(h0, .inr (10, [.ref (fa0 0), .ref (fa0 1), .ref (fa0 2), .ref (fa0 20), .ref (fa0 21), .ref (fa0 16), .ref (fa0 17), .ref (fa0 22), .ref (fa0 23), .ref (fa0 18), .ref (fa0 24), .ref (fa0 25), .ref (fa0 19), .int 0, .int 0, .int (-1), .int 0, .int 0, .int 0])), ((fa0 2), .inr (1, [.ref (fa0 3), .ref (fa0 4), .ref (fa0 5), .ref (fa0 6), .ref (fa0 7), .ref (fa0 8), .ref (fa0 9), .ref (fa0 31), .ref (fa0 10), .int 0, .int 1700, .int 0])), ((fa0 10), .inl (cI, 2, .inl (fun _ => 0)))] sz)) 0 0 (va_A [(h0, .inr (10, [.ref (fa0 0), .ref (fa0 1), .ref (fa0 2), .ref (fa0 20), .ref (fa0 21), .ref (fa0 16), .ref (fa0 17), .ref (fa0 22), .ref (fa0 23), .ref (fa0 18), .ref (fa0 24), .ref (fa0 25), .ref (fa0 19), .int 0, .int 0, .int (-1), .int 0, .int 0, .int 0])), ((fa0 2), .inr (1, [.ref (fa0 3), .ref (fa0 4), .ref (fa0 5), .ref (fa0 6), .ref (fa0 7), .ref (fa0 8), .ref (fa0 9), .ref (fa0 31), .ref (fa0 10), .int 0, .int 1700, .int 0])), ((fa0 10), .inl (cI, 2, .inl (fun _ => 0)))] sz) := by
  refine Met.ofW (cc := cX10_type) (maxL := 3) (ret := (some .int)) (by decide) rfl ?_
  intro p e s m args below meth c s₁ B hml hv
  obtain ⟨rfl, hsz, hP, hK, hD0⟩ := hv
  have hx := B.exec
  have hb := B.bytes
  have hr := B.returns
  have hts := atoms_spec (ws := wq_X10_type_2) B.pre
  have hown : s.vm.findClass RX10 = some m.cls := findClass_of_methodNamed B.named
  have hlocks := B.notSynchronized
  subst hsz
  have hD := hD0.self (sz := s.heap.size)
  generalize hAe : va_A [(h0, .inr (10, [.ref (fa0 0), .ref (fa0 1), .ref (fa0 2), .ref (fa0 20), .ref (fa0 21), .ref (fa0 16), .ref (fa0 17), .ref (fa0 22), .ref (fa0 23), .ref (fa0 18), .ref (fa0 24), .ref (fa0 25), .ref (fa0 19), .int 0, .int 0, .int (-1), .int 0, .int 0, .int 0])), ((fa0 2), .inr (1, [.ref (fa0 3), .ref (fa0 4), .ref (fa0 5), .ref (fa0 6), .ref (fa0 7), .ref (fa0 8), .ref (fa0 9), .ref (fa0 31), .ref (fa0 10), .int 0, .int 1700, .int 0])), ((fa0 10), .inl (cI, 2, .inl (fun _ => 0)))] s.heap.size = A at hD ⊢
  have hA : ∀ q : Nat, s.heap.size ≤ q → A q := fun q h => by rw [← hAe]; exact Or.inr h
  have hS : va_S A s.heap s.heap [] := va_S.rf
  have hP : va_P (dC, dI) vwCl [(h0, .inr (10, [.ref (fa0 0), .ref (fa0 1), .ref (fa0 2), .ref (fa0 20), .ref (fa0 21), .ref (fa0 16), .ref (fa0 17), .ref (fa0 22), .ref (fa0 23), .ref (fa0 18), .ref (fa0 24), .ref (fa0 25), .ref (fa0 19), .int 0, .int 0, .int (-1), .int 0, .int 0, .int 0])), ((fa0 2), .inr (1, [.ref (fa0 3), .ref (fa0 4), .ref (fa0 5), .ref (fa0 6), .ref (fa0 7), .ref (fa0 8), .ref (fa0 9), .ref (fa0 31), .ref (fa0 10), .int 0, .int 1700, .int 0])), ((fa0 10), .inl (cI, 2, .inl (fun _ => 0)))] s.heap := hP
  obtain ⟨H, hH⟩ : ∃ H, H = s.heap := ⟨_, rfl⟩
  rw [← hH] at hP
  have hS : va_S A s.heap H [] := by rw [hH]; exact hS
  have hl := lv_entry ([.ref h0, .int 1, .int x0]) (n := 3) (Nat.le_of_ble_eq_true rfl)
  rw [lg_entry_eq]
  generalize (lg_sl ([.ref h0, .int 1, .int x0]) ++ List.replicate (3 - (lg_sl ([.ref h0, .int 1, .int x0])).length) Slot.unset).toArray = ls at hl ⊢
  have hl : lv_has ls 3 [(0, .ref h0), (1, .int 1), (2, .int x0)] := hl
  refine pq_heap hH ?_
  refine lv_iload_n hx hb dX10_type_0 rfl (lv_at hl 1 rfl) ?_
  refine lv_if_ne (tgt := 30) hx hb dX10_type_1 (by decide) (fun _ => ?_) (fun c_ => absurd c_ (by decide))
  refine lv_iload_n hx hb dX10_type_30 rfl (lv_at hl 1 rfl) ?_
  refine lv_iconst (v := 1) hx hb dX10_type_31 (by decide) ?_
  refine lv_icmp_ne (tgt := 97) hx hb dX10_type_32 (by decide) (fun c_ => absurd (by decide) c_) (fun _ => ?_)
  refine lv_iload_n hx hb dX10_type_35 rfl (lv_at hl 2 rfl) ?_
  refine lv_if_lt (tgt := 97) hx hb dX10_type_36 (by decide) (fun c_ => absurd c_ k2) (fun _ => ?_)
  refine lv_iload_n hx hb dX10_type_39 rfl (lv_at hl 2 rfl) ?_
  refine lv_aload_n hx hb dX10_type_40 rfl (lv_at hl 0 rfl) ?_
  refine va_get (D := (dC, dI)) (ci := 10) (v := .ref (fa0 2)) (C := RX10) (T := TX10) (N := 19) hx hb hts iq_X10_type_2_X10 hown hK hP 0 rfl rfl 2 (by decide) (hts (Cond.fieldLink RX10 23 "CodePress" "code" "LCodePress$Code;") (List.mem_of_getElem? (i := 1) rfl)) (fun _ h9 => h9) rfl dX10_type_41 ?_
  refine va_get (D := (dC, dI)) (ci := 1) (v := .ref (fa0 10)) (C := RX1) (T := TX1) (N := 12) hx hb hts iq_X10_type_2_X1 hown hK hP 1 rfl rfl 8 (by decide) (hts (Cond.fieldLink RX10 129 "CodePress$Code" "defCount" "[I") (List.mem_of_getElem? (i := 2) rfl)) (fun _ h9 => h9) rfl dX10_type_44 ?_
  refine lv_aload_n hx hb dX10_type_47 rfl (lv_at hl 0 rfl) ?_
  refine va_get (D := (dC, dI)) (ci := 10) (v := .ref (fa0 2)) (C := RX10) (T := TX10) (N := 19) hx hb hts iq_X10_type_2_X10 hown hK hP 0 rfl rfl 2 (by decide) (hts (Cond.fieldLink RX10 23 "CodePress" "code" "LCodePress$Code;") (List.mem_of_getElem? (i := 1) rfl)) (fun _ h9 => h9) rfl dX10_type_48 ?_
  refine va_get (D := (dC, dI)) (ci := 1) (v := .int 0) (C := RX1) (T := TX1) (N := 12) hx hb hts iq_X10_type_2_X1 hown hK hP 1 rfl rfl 11 (by decide) (hts (Cond.fieldLink RX10 112 "CodePress$Code" "known" "I") (List.mem_of_getElem? (i := 3) rfl)) (fun _ h9 => h9) rfl dX10_type_51 ?_
  refine va_iald hx hb hK hP 2 1 rfl rfl (pq_in (by decide)) dX10_type_54 ?_
  refine lv_topi (fun x1 ex1 => ?_)
  obtain rfl : x1 = 0 := ex1.trans (by decide)
  refine lv_icmp_ge (tgt := 97) hx hb dX10_type_55 (by decide) (fun _ => ?_) (fun c_ => absurd k3 c_)
  refine lv_iconst (v := (-1)) hx hb dX10_type_97 (by decide) ?_
  have hP9 := pq_P.pick (wc := [(h0, .inr (10, [.ref (fa0 0), .ref (fa0 1), .ref (fa0 2), .ref (fa0 20), .ref (fa0 21), .ref (fa0 16), .ref (fa0 17), .ref (fa0 22), .ref (fa0 23), .ref (fa0 18), .ref (fa0 24), .ref (fa0 25), .ref (fa0 19), .int 0, .int 0, .int (-1), .int 0, .int 0, .int 0])), ((fa0 2), .inr (1, [.ref (fa0 3), .ref (fa0 4), .ref (fa0 5), .ref (fa0 6), .ref (fa0 7), .ref (fa0 8), .ref (fa0 9), .ref (fa0 31), .ref (fa0 10), .int 0, .int 1700, .int 0])), ((fa0 10), .inl (cI, 2, .inl (fun _ => 0)))]) hP [0, 1, 2] rfl
  have hD9 := hD.sub (ws' := [(h0, .inr (10, [.ref (fa0 0), .ref (fa0 1), .ref (fa0 2), .ref (fa0 20), .ref (fa0 21), .ref (fa0 16), .ref (fa0 17), .ref (fa0 22), .ref (fa0 23), .ref (fa0 18), .ref (fa0 24), .ref (fa0 25), .ref (fa0 19), .int 0, .int 0, .int (-1), .int 0, .int 0, .int 0])), ((fa0 2), .inr (1, [.ref (fa0 3), .ref (fa0 4), .ref (fa0 5), .ref (fa0 6), .ref (fa0 7), .ref (fa0 8), .ref (fa0 9), .ref (fa0 31), .ref (fa0 10), .int 0, .int 1700, .int 0])), ((fa0 10), .inl (cI, 2, .inl (fun _ => 0)))]) [0, 1, 2] (by decide) rfl
  refine W.widen (k := 0) (n := 0) (by decide +kernel) (by decide +kernel) ?_
  exact W.iret (v := (-1)) hx hb hr (fun t ht hW => ⟨⟨(-1), sq_u [] [], rfl, rfl, pq_B.of ht hP9 hD9⟩, hS.F ht⟩) hS.2.2 dX10_type_98
def wq_X10_type_3 : List Cond := Cond.code yX10_type cX10_type 3 (some .int) :: (([] : List Cond))
set_option maxHeartbeats 4000000 in
set_option maxRecDepth 100000 in
theorem cq_X10_type_3 (l : Launch) (dC : Nat → ClassId) (dI : Nat → Nat → Nat) (cB cI cJ cZ : ClassId) (a0 : Nat) (x0 : Int32) (x1 : Int32) (sz : Nat) (k1 : ¬ x0 = 0) (k2 : ¬ x0 = 1) : Met l yX10_type wq_X10_type_3 ({ frames := 0, cells := 0, slots := 0, locals := 0 }) (va_Pc [.ref a0, .int x0, .int x1] (pq_W (dC, dI) vwCl (tyQ cB cI cJ cZ) [] sz)) (va_Qi (fun (r : Int32) (_ : SQ) => r = (-1)) (fun u => pq_B (dC, dI) vwCl [] (va_A [] sz)) (va_A [] sz)) 0 0 (va_A [] sz) := by
  refine Met.ofW (cc := cX10_type) (maxL := 3) (ret := (some .int)) (by decide) rfl ?_
  intro p e s m args below meth c s₁ B hml hv
  obtain ⟨rfl, hsz, hP, hK, hD0⟩ := hv
  have hx := B.exec
  have hb := B.bytes
  have hr := B.returns
  have hts := atoms_spec (ws := wq_X10_type_3) B.pre
  have hown : s.vm.findClass RX10 = some m.cls := findClass_of_methodNamed B.named
  have hlocks := B.notSynchronized
  subst hsz
  have hD := hD0.self (sz := s.heap.size)
  generalize hAe : va_A [] s.heap.size = A at hD ⊢
  have hA : ∀ q : Nat, s.heap.size ≤ q → A q := fun q h => by rw [← hAe]; exact Or.inr h
  have hS : va_S A s.heap s.heap [] := va_S.rf
  have hP : va_P (dC, dI) vwCl [] s.heap := hP
  obtain ⟨H, hH⟩ : ∃ H, H = s.heap := ⟨_, rfl⟩
  rw [← hH] at hP
  have hS : va_S A s.heap H [] := by rw [hH]; exact hS
  have hl := lv_entry ([.ref a0, .int x0, .int x1]) (n := 3) (Nat.le_of_ble_eq_true rfl)
  rw [lg_entry_eq]
  generalize (lg_sl ([.ref a0, .int x0, .int x1]) ++ List.replicate (3 - (lg_sl ([.ref a0, .int x0, .int x1])).length) Slot.unset).toArray = ls at hl ⊢
  have hl : lv_has ls 3 [(0, .ref a0), (1, .int x0), (2, .int x1)] := hl
  refine pq_heap hH ?_
  refine lv_iload_n hx hb dX10_type_0 rfl (lv_at hl 1 rfl) ?_
  refine lv_if_ne (tgt := 30) hx hb dX10_type_1 (by decide) (fun _ => ?_) (fun c_ => absurd c_ k1)
  refine lv_iload_n hx hb dX10_type_30 rfl (lv_at hl 1 rfl) ?_
  refine lv_iconst (v := 1) hx hb dX10_type_31 (by decide) ?_
  refine lv_icmp_ne (tgt := 97) hx hb dX10_type_32 (by decide) (fun _ => ?_) (fun c_ => absurd c_ k2)
  refine lv_iconst (v := (-1)) hx hb dX10_type_97 (by decide) ?_
  have hP9 := pq_P.pick (wc := []) hP [] rfl
  have hD9 := hD.sub (ws' := []) [] (by decide) rfl
  refine W.widen (k := 0) (n := 0) (by decide +kernel) (by decide +kernel) ?_
  exact W.iret (v := (-1)) hx hb hr (fun t ht hW => ⟨⟨(-1), sq_u [] [], rfl, rfl, pq_B.of ht hP9 hD9⟩, hS.F ht⟩) hS.2.2 dX10_type_98
def wq_X10_value_r1 : List Cond := [Cond.fieldLink RX10 142 "CodePress" "hasValue" "Z"]
def wq_X10_value : List Cond := Cond.code yX10_value cX10_value 1 (some .int) :: (wq_X10_value_r1 ++ wsX100)
theorem iq_X10_value_X10 : ∀ w ∈ wsX100, w ∈ wq_X10_value := fun _ h => List.mem_cons_of_mem _ (List.mem_append_right _ h)
set_option maxHeartbeats 4000000 in
set_option maxRecDepth 100000 in
theorem cq_X10_value (l : Launch) (dC : Nat → ClassId) (dI : Nat → Nat → Nat) (cB cI cJ cZ : ClassId) (h0 : Nat) (fa0 : Nat → Nat) (sz : Nat) : Met l yX10_value wq_X10_value ({ frames := 0, cells := 0, slots := 0, locals := 0 }) (va_Pc [.ref h0] (pq_W (dC, dI) vwCl (tyQ cB cI cJ cZ) [(h0, .inr (10, [.ref (fa0 0), .ref (fa0 1), .ref (fa0 2), .ref (fa0 20), .ref (fa0 21), .ref (fa0 16), .ref (fa0 17), .ref (fa0 22), .ref (fa0 23), .ref (fa0 18), .ref (fa0 24), .ref (fa0 25), .ref (fa0 19), .int 0, .int 0, .int (-1), .int 0, .int 0, .int 0]))] sz)) (va_Qi (fun (r : Int32) (_ : SQ) => r = (-1)) (fun u => pq_B (dC, dI) vwCl [(h0, .inr (10, [.ref (fa0 0), .ref (fa0 1), .ref (fa0 2), .ref (fa0 20), .ref (fa0 21), .ref (fa0 16), .ref (fa0 17), .ref (fa0 22), .ref (fa0 23), .ref (fa0 18), .ref (fa0 24), .ref (fa0 25), .ref (fa0 19), .int 0, .int 0, .int (-1), .int 0, .int 0, .int 0]))] (va_A [(h0, .inr (10, [.ref (fa0 0), .ref (fa0 1), .ref (fa0 2), .ref (fa0 20), .ref (fa0 21), .ref (fa0 16), .ref (fa0 17), .ref (fa0 22), .ref (fa0 23), .ref (fa0 18), .ref (fa0 24), .ref (fa0 25), .ref (fa0 19), .int 0, .int 0, .int (-1), .int 0, .int 0, .int 0]))] sz)) (va_A [(h0, .inr (10, [.ref (fa0 0), .ref (fa0 1), .ref (fa0 2), .ref (fa0 20), .ref (fa0 21), .ref (fa0 16), .ref (fa0 17), .ref (fa0 22), .ref (fa0 23), .ref (fa0 18), .ref (fa0 24), .ref (fa0 25), .ref (fa0 19), .int 0, .int 0, .int (-1), .int 0, .int 0, .int 0]))] sz)) 0 0 (va_A [(h0, .inr (10, [.ref (fa0 0), .ref (fa0 1), .ref (fa0 2), .ref (fa0 20), .ref (fa0 21), .ref (fa0 16), .ref (fa0 17), .ref (fa0 22), .ref (fa0 23), .ref (fa0 18), .ref (fa0 24), .ref (fa0 25), .ref (fa0 19), .int 0, .int 0, .int (-1), .int 0, .int 0, .int 0]))] sz) := by
  refine Met.ofW (cc := cX10_value) (maxL := 1) (ret := (some .int)) (by decide) rfl ?_
  intro p e s m args below meth c s₁ B hml hv
  obtain ⟨rfl, hsz, hP, hK, hD0⟩ := hv
  have hx := B.exec
  have hb := B.bytes
  have hr := B.returns
  have hts := atoms_spec (ws := wq_X10_value) B.pre
  have hown : s.vm.findClass RX10 = some m.cls := findClass_of_methodNamed B.named
  have hlocks := B.notSynchronized
  subst hsz
  have hD := hD0.self (sz := s.heap.size)
  generalize hAe : va_A [(h0, .inr (10, [.ref (fa0 0), .ref (fa0 1), .ref (fa0 2), .ref (fa0 20), .ref (fa0 21), .ref (fa0 16), .ref (fa0 17), .ref (fa0 22), .ref (fa0 23), .ref (fa0 18), .ref (fa0 24), .ref (fa0 25), .ref (fa0 19), .int 0, .int 0, .int (-1), .int 0, .int 0, .int 0]))] s.heap.size = A at hD ⊢
  have hA : ∀ q : Nat, s.heap.size ≤ q → A q := fun q h => by rw [← hAe]; exact Or.inr h
  have hS : va_S A s.heap s.heap [] := va_S.rf
  have hP : va_P (dC, dI) vwCl [(h0, .inr (10, [.ref (fa0 0), .ref (fa0 1), .ref (fa0 2), .ref (fa0 20), .ref (fa0 21), .ref (fa0 16), .ref (fa0 17), .ref (fa0 22), .ref (fa0 23), .ref (fa0 18), .ref (fa0 24), .ref (fa0 25), .ref (fa0 19), .int 0, .int 0, .int (-1), .int 0, .int 0, .int 0]))] s.heap := hP
  obtain ⟨H, hH⟩ : ∃ H, H = s.heap := ⟨_, rfl⟩
  rw [← hH] at hP
  have hS : va_S A s.heap H [] := by rw [hH]; exact hS
  have hl := lv_entry ([.ref h0]) (n := 1) (Nat.le_of_ble_eq_true rfl)
  rw [lg_entry_eq]
  generalize (lg_sl ([.ref h0]) ++ List.replicate (1 - (lg_sl ([.ref h0])).length) Slot.unset).toArray = ls at hl ⊢
  have hl : lv_has ls 1 [(0, .ref h0)] := hl
  refine pq_heap hH ?_
  refine lv_aload_n hx hb dX10_value_0 rfl (lv_at hl 0 rfl) ?_
  refine va_get (D := (dC, dI)) (ci := 10) (v := .int 0) (C := RX10) (T := TX10) (N := 19) hx hb hts iq_X10_value_X10 hown hK hP 0 rfl rfl 18 (by decide) (hts (Cond.fieldLink RX10 142 "CodePress" "hasValue" "Z") (List.mem_of_getElem? (i := 1) rfl)) (fun _ h9 => h9) rfl dX10_value_1 ?_
  refine lv_if_eq (tgt := 17) hx hb dX10_value_4 (by decide) (fun _ => ?_) (fun c_ => absurd (by decide) c_)
  refine lv_iconst (v := (-1)) hx hb dX10_value_17 (by decide) ?_
  have hP9 := pq_P.pick (wc := [(h0, .inr (10, [.ref (fa0 0), .ref (fa0 1), .ref (fa0 2), .ref (fa0 20), .ref (fa0 21), .ref (fa0 16), .ref (fa0 17), .ref (fa0 22), .ref (fa0 23), .ref (fa0 18), .ref (fa0 24), .ref (fa0 25), .ref (fa0 19), .int 0, .int 0, .int (-1), .int 0, .int 0, .int 0]))]) hP [0] rfl
  have hD9 := hD.sub (ws' := [(h0, .inr (10, [.ref (fa0 0), .ref (fa0 1), .ref (fa0 2), .ref (fa0 20), .ref (fa0 21), .ref (fa0 16), .ref (fa0 17), .ref (fa0 22), .ref (fa0 23), .ref (fa0 18), .ref (fa0 24), .ref (fa0 25), .ref (fa0 19), .int 0, .int 0, .int (-1), .int 0, .int 0, .int 0]))]) [0] (by decide) rfl
  refine W.widen (k := 0) (n := 0) (by decide +kernel) (by decide +kernel) ?_
  exact W.iret (v := (-1)) hx hb hr (fun t ht hW => ⟨⟨(-1), sq_u [] [], rfl, rfl, pq_B.of ht hP9 hD9⟩, hS.F ht⟩) hS.2.2 dX10_value_18
def wq_X10_out : List Cond := Cond.code yX10_out cX10_out 2 (some .int) :: (([] : List Cond))
set_option maxHeartbeats 4000000 in
set_option maxRecDepth 100000 in
theorem cq_X10_out (l : Launch) (dC : Nat → ClassId) (dI : Nat → Nat → Nat) (cB cI cJ cZ : ClassId) (a0 : Nat) (x0 : Int32) (sz : Nat) (k1 : x0 < 0) : Met l yX10_out wq_X10_out ({ frames := 0, cells := 0, slots := 0, locals := 0 }) (va_Pc [.ref a0, .int x0] (pq_W (dC, dI) vwCl (tyQ cB cI cJ cZ) [] sz)) (va_Qi (fun (r : Int32) (_ : SQ) => r = (-1)) (fun u => pq_B (dC, dI) vwCl [] (va_A [] sz)) (va_A [] sz)) 0 0 (va_A [] sz) := by
  refine Met.ofW (cc := cX10_out) (maxL := 2) (ret := (some .int)) (by decide) rfl ?_
  intro p e s m args below meth c s₁ B hml hv
  obtain ⟨rfl, hsz, hP, hK, hD0⟩ := hv
  have hx := B.exec
  have hb := B.bytes
  have hr := B.returns
  have hts := atoms_spec (ws := wq_X10_out) B.pre
  have hown : s.vm.findClass RX10 = some m.cls := findClass_of_methodNamed B.named
  have hlocks := B.notSynchronized
  subst hsz
  have hD := hD0.self (sz := s.heap.size)
  generalize hAe : va_A [] s.heap.size = A at hD ⊢
  have hA : ∀ q : Nat, s.heap.size ≤ q → A q := fun q h => by rw [← hAe]; exact Or.inr h
  have hS : va_S A s.heap s.heap [] := va_S.rf
  have hP : va_P (dC, dI) vwCl [] s.heap := hP
  obtain ⟨H, hH⟩ : ∃ H, H = s.heap := ⟨_, rfl⟩
  rw [← hH] at hP
  have hS : va_S A s.heap H [] := by rw [hH]; exact hS
  have hl := lv_entry ([.ref a0, .int x0]) (n := 2) (Nat.le_of_ble_eq_true rfl)
  rw [lg_entry_eq]
  generalize (lg_sl ([.ref a0, .int x0]) ++ List.replicate (2 - (lg_sl ([.ref a0, .int x0])).length) Slot.unset).toArray = ls at hl ⊢
  have hl : lv_has ls 2 [(0, .ref a0), (1, .int x0)] := hl
  refine pq_heap hH ?_
  refine lv_iload_n hx hb dX10_out_0 rfl (lv_at hl 1 rfl) ?_
  refine lv_if_lt (tgt := 27) hx hb dX10_out_1 (by decide) (fun _ => ?_) (fun c_ => absurd k1 c_)
  refine lv_iconst (v := (-1)) hx hb dX10_out_27 (by decide) ?_
  have hP9 := pq_P.pick (wc := []) hP [] rfl
  have hD9 := hD.sub (ws' := []) [] (by decide) rfl
  refine W.widen (k := 0) (n := 0) (by decide +kernel) (by decide +kernel) ?_
  exact W.iret (v := (-1)) hx hb hr (fun t ht hW => ⟨⟨(-1), sq_u [] [], rfl, rfl, pq_B.of ht hP9 hD9⟩, hS.F ht⟩) hS.2.2 dX10_out_28
def wq_X10_out_1_r1 : List Cond := [Cond.fieldLink RX10 87 "CodePress" "shown" "LCodePress$Writer;", Cond.fieldLink RX10 166 "CodePress$Writer" "size" "I"]
def wq_X10_out_1 : List Cond := Cond.code yX10_out cX10_out 2 (some .int) :: (wq_X10_out_1_r1 ++ wsX100 ++ wsX90)
theorem iq_X10_out_1_X10 : ∀ w ∈ wsX100, w ∈ wq_X10_out_1 := fun _ h => List.mem_cons_of_mem _ (List.mem_append_left _ (List.mem_append_right _ h))
theorem iq_X10_out_1_X9 : ∀ w ∈ wsX90, w ∈ wq_X10_out_1 := fun _ h => List.mem_cons_of_mem _ (List.mem_append_right _ h)
set_option maxHeartbeats 4000000 in
set_option maxRecDepth 100000 in
theorem cq_X10_out_1 (l : Launch) (dC : Nat → ClassId) (dI : Nat → Nat → Nat) (cB cI cJ cZ : ClassId) (h0 : Nat) (fa0 : Nat → Nat) (x0 : Int32) (sz : Nat) (k1 : ¬ x0 < 0) (k2 : 0 ≤ x0) : Met l yX10_out wq_X10_out_1 ({ frames := 0, cells := 0, slots := 0, locals := 0 }) (va_Pc [.ref h0, .int x0] (pq_W (dC, dI) vwCl (tyQ cB cI cJ cZ) [(h0, .inr (10, [.ref (fa0 0), .ref (fa0 1), .ref (fa0 2), .ref (fa0 20), .ref (fa0 21), .ref (fa0 16), .ref (fa0 17), .ref (fa0 22), .ref (fa0 23), .ref (fa0 18), .ref (fa0 24), .ref (fa0 25), .ref (fa0 19), .int 0, .int 0, .int (-1), .int 0, .int 0, .int 0])), ((fa0 18), .inr (9, [.ref (fa0 2), .ref (fa0 1), .ref (fa0 20), .ref (fa0 21), .ref (fa0 38), .int 0, .int 0, .int 0]))] sz)) (va_Qi (fun (r : Int32) (_ : SQ) => r = (-1)) (fun u => pq_B (dC, dI) vwCl [(h0, .inr (10, [.ref (fa0 0), .ref (fa0 1), .ref (fa0 2), .ref (fa0 20), .ref (fa0 21), .ref (fa0 16), .ref (fa0 17), .ref (fa0 22), .ref (fa0 23), .ref (fa0 18), .ref (fa0 24), .ref (fa0 25), .ref (fa0 19), .int 0, .int 0, .int (-1), .int 0, .int 0, .int 0])), ((fa0 18), .inr (9, [.ref (fa0 2), .ref (fa0 1), .ref (fa0 20), .ref (fa0 21), .ref (fa0 38), .int 0, .int 0, .int 0]))] (va_A [(h0, .inr (10, [.ref (fa0 0), .ref (fa0 1), .ref (fa0 2), .ref (fa0 20), .ref (fa0 21), .ref (fa0 16), .ref (fa0 17), .ref (fa0 22), .ref (fa0 23), .ref (fa0 18), .ref (fa0 24), .ref (fa0 25), .ref (fa0 19), .int 0, .int 0, .int (-1), .int 0, .int 0, .int 0])), ((fa0 18), .inr (9, [.ref (fa0 2), .ref (fa0 1), .ref (fa0 20), .ref (fa0 21), .ref (fa0 38), .int 0, .int 0, .int 0]))] sz)) (va_A [(h0, .inr (10, [.ref (fa0 0), .ref (fa0 1), .ref (fa0 2), .ref (fa0 20), .ref (fa0 21), .ref (fa0 16), .ref (fa0 17), .ref (fa0 22), .ref (fa0 23), .ref (fa0 18), .ref (fa0 24), .ref (fa0 25), .ref (fa0 19), .int 0, .int 0, .int (-1), .int 0, .int 0, .int 0])), ((fa0 18), .inr (9, [.ref (fa0 2), .ref (fa0 1), .ref (fa0 20), .ref (fa0 21), .ref (fa0 38), .int 0, .int 0, .int 0]))] sz)) 0 0 (va_A [(h0, .inr (10, [.ref (fa0 0), .ref (fa0 1), .ref (fa0 2), .ref (fa0 20), .ref (fa0 21), .ref (fa0 16), .ref (fa0 17), .ref (fa0 22), .ref (fa0 23), .ref (fa0 18), .ref (fa0 24), .ref (fa0 25), .ref (fa0 19), .int 0, .int 0, .int (-1), .int 0, .int 0, .int 0])), ((fa0 18), .inr (9, [.ref (fa0 2), .ref (fa0 1), .ref (fa0 20), .ref (fa0 21), .ref (fa0 38), .int 0, .int 0, .int 0]))] sz) := by
  refine Met.ofW (cc := cX10_out) (maxL := 2) (ret := (some .int)) (by decide) rfl ?_
  intro p e s m args below meth c s₁ B hml hv
  obtain ⟨rfl, hsz, hP, hK, hD0⟩ := hv
  have hx := B.exec
  have hb := B.bytes
  have hr := B.returns
  have hts := atoms_spec (ws := wq_X10_out_1) B.pre
  have hown : s.vm.findClass RX10 = some m.cls := findClass_of_methodNamed B.named
  have hlocks := B.notSynchronized
  subst hsz
  have hD := hD0.self (sz := s.heap.size)
  generalize hAe : va_A [(h0, .inr (10, [.ref (fa0 0), .ref (fa0 1), .ref (fa0 2), .ref (fa0 20), .ref (fa0 21), .ref (fa0 16), .ref (fa0 17), .ref (fa0 22), .ref (fa0 23), .ref (fa0 18), .ref (fa0 24), .ref (fa0 25), .ref (fa0 19), .int 0, .int 0, .int (-1), .int 0, .int 0, .int 0])), ((fa0 18), .inr (9, [.ref (fa0 2), .ref (fa0 1), .ref (fa0 20), .ref (fa0 21), .ref (fa0 38), .int 0, .int 0, .int 0]))] s.heap.size = A at hD ⊢
  have hA : ∀ q : Nat, s.heap.size ≤ q → A q := fun q h => by rw [← hAe]; exact Or.inr h
  have hS : va_S A s.heap s.heap [] := va_S.rf
  have hP : va_P (dC, dI) vwCl [(h0, .inr (10, [.ref (fa0 0), .ref (fa0 1), .ref (fa0 2), .ref (fa0 20), .ref (fa0 21), .ref (fa0 16), .ref (fa0 17), .ref (fa0 22), .ref (fa0 23), .ref (fa0 18), .ref (fa0 24), .ref (fa0 25), .ref (fa0 19), .int 0, .int 0, .int (-1), .int 0, .int 0, .int 0])), ((fa0 18), .inr (9, [.ref (fa0 2), .ref (fa0 1), .ref (fa0 20), .ref (fa0 21), .ref (fa0 38), .int 0, .int 0, .int 0]))] s.heap := hP
  obtain ⟨H, hH⟩ : ∃ H, H = s.heap := ⟨_, rfl⟩
  rw [← hH] at hP
  have hS : va_S A s.heap H [] := by rw [hH]; exact hS
  have hl := lv_entry ([.ref h0, .int x0]) (n := 2) (Nat.le_of_ble_eq_true rfl)
  rw [lg_entry_eq]
  generalize (lg_sl ([.ref h0, .int x0]) ++ List.replicate (2 - (lg_sl ([.ref h0, .int x0])).length) Slot.unset).toArray = ls at hl ⊢
  have hl : lv_has ls 2 [(0, .ref h0), (1, .int x0)] := hl
  refine pq_heap hH ?_
  refine lv_iload_n hx hb dX10_out_0 rfl (lv_at hl 1 rfl) ?_
  refine lv_if_lt (tgt := 27) hx hb dX10_out_1 (by decide) (fun c_ => absurd c_ k1) (fun _ => ?_)
  refine lv_iload_n hx hb dX10_out_4 rfl (lv_at hl 1 rfl) ?_
  refine lv_aload_n hx hb dX10_out_5 rfl (lv_at hl 0 rfl) ?_
  refine va_get (D := (dC, dI)) (ci := 10) (v := .ref (fa0 18)) (C := RX10) (T := TX10) (N := 19) hx hb hts iq_X10_out_1_X10 hown hK hP 0 rfl rfl 9 (by decide) (hts (Cond.fieldLink RX10 87 "CodePress" "shown" "LCodePress$Writer;") (List.mem_of_getElem? (i := 1) rfl)) (fun _ h9 => h9) rfl dX10_out_6 ?_
  refine va_get (D := (dC, dI)) (ci := 9) (v := .int 0) (C := RX9) (T := TX9) (N := 8) hx hb hts iq_X10_out_1_X9 hown hK hP 1 rfl rfl 5 (by decide) (hts (Cond.fieldLink RX10 166 "CodePress$Writer" "size" "I") (List.mem_of_getElem? (i := 2) rfl)) (fun _ h9 => h9) rfl dX10_out_9 ?_
  refine lv_icmp_ge (tgt := 27) hx hb dX10_out_12 (by decide) (fun _ => ?_) (fun c_ => absurd k2 c_)
  refine lv_iconst (v := (-1)) hx hb dX10_out_27 (by decide) ?_
  have hP9 := pq_P.pick (wc := [(h0, .inr (10, [.ref (fa0 0), .ref (fa0 1), .ref (fa0 2), .ref (fa0 20), .ref (fa0 21), .ref (fa0 16), .ref (fa0 17), .ref (fa0 22), .ref (fa0 23), .ref (fa0 18), .ref (fa0 24), .ref (fa0 25), .ref (fa0 19), .int 0, .int 0, .int (-1), .int 0, .int 0, .int 0])), ((fa0 18), .inr (9, [.ref (fa0 2), .ref (fa0 1), .ref (fa0 20), .ref (fa0 21), .ref (fa0 38), .int 0, .int 0, .int 0]))]) hP [0, 1] rfl
  have hD9 := hD.sub (ws' := [(h0, .inr (10, [.ref (fa0 0), .ref (fa0 1), .ref (fa0 2), .ref (fa0 20), .ref (fa0 21), .ref (fa0 16), .ref (fa0 17), .ref (fa0 22), .ref (fa0 23), .ref (fa0 18), .ref (fa0 24), .ref (fa0 25), .ref (fa0 19), .int 0, .int 0, .int (-1), .int 0, .int 0, .int 0])), ((fa0 18), .inr (9, [.ref (fa0 2), .ref (fa0 1), .ref (fa0 20), .ref (fa0 21), .ref (fa0 38), .int 0, .int 0, .int 0]))]) [0, 1] (by decide) rfl
  refine W.widen (k := 0) (n := 0) (by decide +kernel) (by decide +kernel) ?_
  exact W.iret (v := (-1)) hx hb hr (fun t ht hW => ⟨⟨(-1), sq_u [] [], rfl, rfl, pq_B.of ht hP9 hD9⟩, hS.F ht⟩) hS.2.2 dX10_out_28
def wq_X10_count_r1 : List Cond := [Cond.fieldLink RX10 23 "CodePress" "code" "LCodePress$Code;", Cond.fieldLink RX10 129 "CodePress$Code" "defCount" "[I", Cond.fieldLink RX10 112 "CodePress$Code" "known" "I"]
def wq_X10_count : List Cond := Cond.code yX10_count cX10_count 2 (some .int) :: (wq_X10_count_r1 ++ wsX100 ++ wsX10)
theorem iq_X10_count_X10 : ∀ w ∈ wsX100, w ∈ wq_X10_count := fun _ h => List.mem_cons_of_mem _ (List.mem_append_left _ (List.mem_append_right _ h))
theorem iq_X10_count_X1 : ∀ w ∈ wsX10, w ∈ wq_X10_count := fun _ h => List.mem_cons_of_mem _ (List.mem_append_right _ h)
set_option maxHeartbeats 4000000 in
set_option maxRecDepth 100000 in
theorem cq_X10_count (l : Launch) (dC : Nat → ClassId) (dI : Nat → Nat → Nat) (cB cI cJ cZ : ClassId) (h0 : Nat) (fa0 : Nat → Nat) (sz : Nat) : Met l yX10_count wq_X10_count ({ frames := 0, cells := 0, slots := 0, locals := 0 }) (va_Pc [.ref h0, .int 0] (pq_W (dC, dI) vwCl (tyQ cB cI cJ cZ) [(h0, .inr (10, [.ref (fa0 0), .ref (fa0 1), .ref (fa0 2), .ref (fa0 20), .ref (fa0 21), .ref (fa0 16), .ref (fa0 17), .ref (fa0 22), .ref (fa0 23), .ref (fa0 18), .ref (fa0 24), .ref (fa0 25), .ref (fa0 19), .int 0, .int 0, .int (-1), .int 0, .int 0, .int 0])), ((fa0 2), .inr (1, [.ref (fa0 3), .ref (fa0 4), .ref (fa0 5), .ref (fa0 6), .ref (fa0 7), .ref (fa0 8), .ref (fa0 9), .ref (fa0 31), .ref (fa0 10), .int 0, .int 1700, .int 0])), ((fa0 10), .inl (cI, 2, .inl (fun _ => 0)))] sz)) (va_Qi (fun (r : Int32) (_ : SQ) => r = 0) (fun u => pq_B (dC, dI) vwCl [(h0, .inr (10, [.ref (fa0 0), .ref (fa0 1), .ref (fa0 2), .ref (fa0 20), .ref (fa0 21), .ref (fa0 16), .ref (fa0 17), .ref (fa0 22), .ref (fa0 23), .ref (fa0 18), .ref (fa0 24), .ref (fa0 25), .ref (fa0 19), .int 0, .int 0, .int (-1), .int 0, .int 0, .int 0])), ((fa0 2), .inr (1, [.ref (fa0 3), .ref (fa0 4), .ref (fa0 5), .ref (fa0 6), .ref (fa0 7), .ref (fa0 8), .ref (fa0 9), .ref (fa0 31), .ref (fa0 10), .int 0, .int 1700, .int 0])), ((fa0 10), .inl (cI, 2, .inl (fun _ => 0)))] (va_A [(h0, .inr (10, [.ref (fa0 0), .ref (fa0 1), .ref (fa0 2), .ref (fa0 20), .ref (fa0 21), .ref (fa0 16), .ref (fa0 17), .ref (fa0 22), .ref (fa0 23), .ref (fa0 18), .ref (fa0 24), .ref (fa0 25), .ref (fa0 19), .int 0, .int 0, .int (-1), .int 0, .int 0, .int 0])), ((fa0 2), .inr (1, [.ref (fa0 3), .ref (fa0 4), .ref (fa0 5), .ref (fa0 6), .ref (fa0 7), .ref (fa0 8), .ref (fa0 9), .ref (fa0 31), .ref (fa0 10), .int 0, .int 1700, .int 0])), ((fa0 10), .inl (cI, 2, .inl (fun _ => 0)))] sz)) (va_A [(h0, .inr (10, [.ref (fa0 0), .ref (fa0 1), .ref (fa0 2), .ref (fa0 20), .ref (fa0 21), .ref (fa0 16), .ref (fa0 17), .ref (fa0 22), .ref (fa0 23), .ref (fa0 18), .ref (fa0 24), .ref (fa0 25), .ref (fa0 19), .int 0, .int 0, .int (-1), .int 0, .int 0, .int 0])), ((fa0 2), .inr (1, [.ref (fa0 3), .ref (fa0 4), .ref (fa0 5), .ref (fa0 6), .ref (fa0 7), .ref (fa0 8), .ref (fa0 9), .ref (fa0 31), .ref (fa0 10), .int 0, .int 1700, .int 0])), ((fa0 10), .inl (cI, 2, .inl (fun _ => 0)))] sz)) 0 0 (va_A [(h0, .inr (10, [.ref (fa0 0), .ref (fa0 1), .ref (fa0 2), .ref (fa0 20), .ref (fa0 21), .ref (fa0 16), .ref (fa0 17), .ref (fa0 22), .ref (fa0 23), .ref (fa0 18), .ref (fa0 24), .ref (fa0 25), .ref (fa0 19), .int 0, .int 0, .int (-1), .int 0, .int 0, .int 0])), ((fa0 2), .inr (1, [.ref (fa0 3), .ref (fa0 4), .ref (fa0 5), .ref (fa0 6), .ref (fa0 7), .ref (fa0 8), .ref (fa0 9), .ref (fa0 31), .ref (fa0 10), .int 0, .int 1700, .int 0])), ((fa0 10), .inl (cI, 2, .inl (fun _ => 0)))] sz) := by
  refine Met.ofW (cc := cX10_count) (maxL := 2) (ret := (some .int)) (by decide) rfl ?_
  intro p e s m args below meth c s₁ B hml hv
  obtain ⟨rfl, hsz, hP, hK, hD0⟩ := hv
  have hx := B.exec
  have hb := B.bytes
  have hr := B.returns
  have hts := atoms_spec (ws := wq_X10_count) B.pre
  have hown : s.vm.findClass RX10 = some m.cls := findClass_of_methodNamed B.named
  have hlocks := B.notSynchronized
  subst hsz
  have hD := hD0.self (sz := s.heap.size)
  generalize hAe : va_A [(h0, .inr (10, [.ref (fa0 0), .ref (fa0 1), .ref (fa0 2), .ref (fa0 20), .ref (fa0 21), .ref (fa0 16), .ref (fa0 17), .ref (fa0 22), .ref (fa0 23), .ref (fa0 18), .ref (fa0 24), .ref (fa0 25), .ref (fa0 19), .int 0, .int 0, .int (-1), .int 0, .int 0, .int 0])), ((fa0 2), .inr (1, [.ref (fa0 3), .ref (fa0 4), .ref (fa0 5), .ref (fa0 6), .ref (fa0 7), .ref (fa0 8), .ref (fa0 9), .ref (fa0 31), .ref (fa0 10), .int 0, .int 1700, .int 0])), ((fa0 10), .inl (cI, 2, .inl (fun _ => 0)))] s.heap.size = A at hD ⊢
  have hA : ∀ q : Nat, s.heap.size ≤ q → A q := fun q h => by rw [← hAe]; exact Or.inr h
  have hS : va_S A s.heap s.heap [] := va_S.rf
  have hP : va_P (dC, dI) vwCl [(h0, .inr (10, [.ref (fa0 0), .ref (fa0 1), .ref (fa0 2), .ref (fa0 20), .ref (fa0 21), .ref (fa0 16), .ref (fa0 17), .ref (fa0 22), .ref (fa0 23), .ref (fa0 18), .ref (fa0 24), .ref (fa0 25), .ref (fa0 19), .int 0, .int 0, .int (-1), .int 0, .int 0, .int 0])), ((fa0 2), .inr (1, [.ref (fa0 3), .ref (fa0 4), .ref (fa0 5), .ref (fa0 6), .ref (fa0 7), .ref (fa0 8), .ref (fa0 9), .ref (fa0 31), .ref (fa0 10), .int 0, .int 1700, .int 0])), ((fa0 10), .inl (cI, 2, .inl (fun _ => 0)))] s.heap := hP
  obtain ⟨H, hH⟩ : ∃ H, H = s.heap := ⟨_, rfl⟩
  rw [← hH] at hP
  have hS : va_S A s.heap H [] := by rw [hH]; exact hS
  have hl := lv_entry ([.ref h0, .int 0]) (n := 2) (Nat.le_of_ble_eq_true rfl)
  rw [lg_entry_eq]
  generalize (lg_sl ([.ref h0, .int 0]) ++ List.replicate (2 - (lg_sl ([.ref h0, .int 0])).length) Slot.unset).toArray = ls at hl ⊢
  have hl : lv_has ls 2 [(0, .ref h0), (1, .int 0)] := hl
  refine pq_heap hH ?_
  refine lv_iload_n hx hb dX10_count_0 rfl (lv_at hl 1 rfl) ?_
  refine lv_tableIn (off := 31) (tgt := 32) hx hb dX10_count_1 (by decide) (by decide) (by decide) (by decide) ?_
  refine lv_aload_n hx hb dX10_count_32 rfl (lv_at hl 0 rfl) ?_
  refine va_get (D := (dC, dI)) (ci := 10) (v := .ref (fa0 2)) (C := RX10) (T := TX10) (N := 19) hx hb hts iq_X10_count_X10 hown hK hP 0 rfl rfl 2 (by decide) (hts (Cond.fieldLink RX10 23 "CodePress" "code" "LCodePress$Code;") (List.mem_of_getElem? (i := 1) rfl)) (fun _ h9 => h9) rfl dX10_count_33 ?_
  refine va_get (D := (dC, dI)) (ci := 1) (v := .ref (fa0 10)) (C := RX1) (T := TX1) (N := 12) hx hb hts iq_X10_count_X1 hown hK hP 1 rfl rfl 8 (by decide) (hts (Cond.fieldLink RX10 129 "CodePress$Code" "defCount" "[I") (List.mem_of_getElem? (i := 2) rfl)) (fun _ h9 => h9) rfl dX10_count_36 ?_
  refine lv_aload_n hx hb dX10_count_39 rfl (lv_at hl 0 rfl) ?_
  refine va_get (D := (dC, dI)) (ci := 10) (v := .ref (fa0 2)) (C := RX10) (T := TX10) (N := 19) hx hb hts iq_X10_count_X10 hown hK hP 0 rfl rfl 2 (by decide) (hts (Cond.fieldLink RX10 23 "CodePress" "code" "LCodePress$Code;") (List.mem_of_getElem? (i := 1) rfl)) (fun _ h9 => h9) rfl dX10_count_40 ?_
  refine va_get (D := (dC, dI)) (ci := 1) (v := .int 0) (C := RX1) (T := TX1) (N := 12) hx hb hts iq_X10_count_X1 hown hK hP 1 rfl rfl 11 (by decide) (hts (Cond.fieldLink RX10 112 "CodePress$Code" "known" "I") (List.mem_of_getElem? (i := 3) rfl)) (fun _ h9 => h9) rfl dX10_count_43 ?_
  refine va_iald hx hb hK hP 2 1 rfl rfl (pq_in (by decide)) dX10_count_46 ?_
  refine lv_topi (fun x1 ex1 => ?_)
  obtain rfl : x1 = 0 := ex1.trans (by decide)
  have hP9 := pq_P.pick (wc := [(h0, .inr (10, [.ref (fa0 0), .ref (fa0 1), .ref (fa0 2), .ref (fa0 20), .ref (fa0 21), .ref (fa0 16), .ref (fa0 17), .ref (fa0 22), .ref (fa0 23), .ref (fa0 18), .ref (fa0 24), .ref (fa0 25), .ref (fa0 19), .int 0, .int 0, .int (-1), .int 0, .int 0, .int 0])), ((fa0 2), .inr (1, [.ref (fa0 3), .ref (fa0 4), .ref (fa0 5), .ref (fa0 6), .ref (fa0 7), .ref (fa0 8), .ref (fa0 9), .ref (fa0 31), .ref (fa0 10), .int 0, .int 1700, .int 0])), ((fa0 10), .inl (cI, 2, .inl (fun _ => 0)))]) hP [0, 1, 2] rfl
  have hD9 := hD.sub (ws' := [(h0, .inr (10, [.ref (fa0 0), .ref (fa0 1), .ref (fa0 2), .ref (fa0 20), .ref (fa0 21), .ref (fa0 16), .ref (fa0 17), .ref (fa0 22), .ref (fa0 23), .ref (fa0 18), .ref (fa0 24), .ref (fa0 25), .ref (fa0 19), .int 0, .int 0, .int (-1), .int 0, .int 0, .int 0])), ((fa0 2), .inr (1, [.ref (fa0 3), .ref (fa0 4), .ref (fa0 5), .ref (fa0 6), .ref (fa0 7), .ref (fa0 8), .ref (fa0 9), .ref (fa0 31), .ref (fa0 10), .int 0, .int 1700, .int 0])), ((fa0 10), .inl (cI, 2, .inl (fun _ => 0)))]) [0, 1, 2] (by decide) rfl
  refine W.widen (k := 0) (n := 0) (by decide +kernel) (by decide +kernel) ?_
  exact W.iret (v := 0) hx hb hr (fun t ht hW => ⟨⟨0, sq_u [] [], rfl, rfl, pq_B.of ht hP9 hD9⟩, hS.F ht⟩) hS.2.2 dX10_count_47
def wq_X10_count_1_r1 : List Cond := [Cond.fieldLink RX10 105 "CodePress" "tapeSize" "I"]
def wq_X10_count_1 : List Cond := Cond.code yX10_count cX10_count 2 (some .int) :: (wq_X10_count_1_r1 ++ wsX100)
theorem iq_X10_count_1_X10 : ∀ w ∈ wsX100, w ∈ wq_X10_count_1 := fun _ h => List.mem_cons_of_mem _ (List.mem_append_right _ h)
set_option maxHeartbeats 4000000 in
set_option maxRecDepth 100000 in
theorem cq_X10_count_1 (l : Launch) (dC : Nat → ClassId) (dI : Nat → Nat → Nat) (cB cI cJ cZ : ClassId) (h0 : Nat) (fa0 : Nat → Nat) (sz : Nat) : Met l yX10_count wq_X10_count_1 ({ frames := 0, cells := 0, slots := 0, locals := 0 }) (va_Pc [.ref h0, .int 1] (pq_W (dC, dI) vwCl (tyQ cB cI cJ cZ) [(h0, .inr (10, [.ref (fa0 0), .ref (fa0 1), .ref (fa0 2), .ref (fa0 20), .ref (fa0 21), .ref (fa0 16), .ref (fa0 17), .ref (fa0 22), .ref (fa0 23), .ref (fa0 18), .ref (fa0 24), .ref (fa0 25), .ref (fa0 19), .int 0, .int 0, .int (-1), .int 0, .int 0, .int 0]))] sz)) (va_Qi (fun (r : Int32) (_ : SQ) => r = 0) (fun u => pq_B (dC, dI) vwCl [(h0, .inr (10, [.ref (fa0 0), .ref (fa0 1), .ref (fa0 2), .ref (fa0 20), .ref (fa0 21), .ref (fa0 16), .ref (fa0 17), .ref (fa0 22), .ref (fa0 23), .ref (fa0 18), .ref (fa0 24), .ref (fa0 25), .ref (fa0 19), .int 0, .int 0, .int (-1), .int 0, .int 0, .int 0]))] (va_A [(h0, .inr (10, [.ref (fa0 0), .ref (fa0 1), .ref (fa0 2), .ref (fa0 20), .ref (fa0 21), .ref (fa0 16), .ref (fa0 17), .ref (fa0 22), .ref (fa0 23), .ref (fa0 18), .ref (fa0 24), .ref (fa0 25), .ref (fa0 19), .int 0, .int 0, .int (-1), .int 0, .int 0, .int 0]))] sz)) (va_A [(h0, .inr (10, [.ref (fa0 0), .ref (fa0 1), .ref (fa0 2), .ref (fa0 20), .ref (fa0 21), .ref (fa0 16), .ref (fa0 17), .ref (fa0 22), .ref (fa0 23), .ref (fa0 18), .ref (fa0 24), .ref (fa0 25), .ref (fa0 19), .int 0, .int 0, .int (-1), .int 0, .int 0, .int 0]))] sz)) 0 0 (va_A [(h0, .inr (10, [.ref (fa0 0), .ref (fa0 1), .ref (fa0 2), .ref (fa0 20), .ref (fa0 21), .ref (fa0 16), .ref (fa0 17), .ref (fa0 22), .ref (fa0 23), .ref (fa0 18), .ref (fa0 24), .ref (fa0 25), .ref (fa0 19), .int 0, .int 0, .int (-1), .int 0, .int 0, .int 0]))] sz) := by
  refine Met.ofW (cc := cX10_count) (maxL := 2) (ret := (some .int)) (by decide) rfl ?_
  intro p e s m args below meth c s₁ B hml hv
  obtain ⟨rfl, hsz, hP, hK, hD0⟩ := hv
  have hx := B.exec
  have hb := B.bytes
  have hr := B.returns
  have hts := atoms_spec (ws := wq_X10_count_1) B.pre
  have hown : s.vm.findClass RX10 = some m.cls := findClass_of_methodNamed B.named
  have hlocks := B.notSynchronized
  subst hsz
  have hD := hD0.self (sz := s.heap.size)
  generalize hAe : va_A [(h0, .inr (10, [.ref (fa0 0), .ref (fa0 1), .ref (fa0 2), .ref (fa0 20), .ref (fa0 21), .ref (fa0 16), .ref (fa0 17), .ref (fa0 22), .ref (fa0 23), .ref (fa0 18), .ref (fa0 24), .ref (fa0 25), .ref (fa0 19), .int 0, .int 0, .int (-1), .int 0, .int 0, .int 0]))] s.heap.size = A at hD ⊢
  have hA : ∀ q : Nat, s.heap.size ≤ q → A q := fun q h => by rw [← hAe]; exact Or.inr h
  have hS : va_S A s.heap s.heap [] := va_S.rf
  have hP : va_P (dC, dI) vwCl [(h0, .inr (10, [.ref (fa0 0), .ref (fa0 1), .ref (fa0 2), .ref (fa0 20), .ref (fa0 21), .ref (fa0 16), .ref (fa0 17), .ref (fa0 22), .ref (fa0 23), .ref (fa0 18), .ref (fa0 24), .ref (fa0 25), .ref (fa0 19), .int 0, .int 0, .int (-1), .int 0, .int 0, .int 0]))] s.heap := hP
  obtain ⟨H, hH⟩ : ∃ H, H = s.heap := ⟨_, rfl⟩
  rw [← hH] at hP
  have hS : va_S A s.heap H [] := by rw [hH]; exact hS
  have hl := lv_entry ([.ref h0, .int 1]) (n := 2) (Nat.le_of_ble_eq_true rfl)
  rw [lg_entry_eq]
  generalize (lg_sl ([.ref h0, .int 1]) ++ List.replicate (2 - (lg_sl ([.ref h0, .int 1])).length) Slot.unset).toArray = ls at hl ⊢
  have hl : lv_has ls 2 [(0, .ref h0), (1, .int 1)] := hl
  refine pq_heap hH ?_
  refine lv_iload_n hx hb dX10_count_0 rfl (lv_at hl 1 rfl) ?_
  refine lv_tableIn (off := 47) (tgt := 48) hx hb dX10_count_1 (by decide) (by decide) (by decide) (by decide) ?_
  refine lv_aload_n hx hb dX10_count_48 rfl (lv_at hl 0 rfl) ?_
  refine va_get (D := (dC, dI)) (ci := 10) (v := .int 0) (C := RX10) (T := TX10) (N := 19) hx hb hts iq_X10_count_1_X10 hown hK hP 0 rfl rfl 13 (by decide) (hts (Cond.fieldLink RX10 105 "CodePress" "tapeSize" "I") (List.mem_of_getElem? (i := 1) rfl)) (fun _ h9 => h9) rfl dX10_count_49 ?_
  have hP9 := pq_P.pick (wc := [(h0, .inr (10, [.ref (fa0 0), .ref (fa0 1), .ref (fa0 2), .ref (fa0 20), .ref (fa0 21), .ref (fa0 16), .ref (fa0 17), .ref (fa0 22), .ref (fa0 23), .ref (fa0 18), .ref (fa0 24), .ref (fa0 25), .ref (fa0 19), .int 0, .int 0, .int (-1), .int 0, .int 0, .int 0]))]) hP [0] rfl
  have hD9 := hD.sub (ws' := [(h0, .inr (10, [.ref (fa0 0), .ref (fa0 1), .ref (fa0 2), .ref (fa0 20), .ref (fa0 21), .ref (fa0 16), .ref (fa0 17), .ref (fa0 22), .ref (fa0 23), .ref (fa0 18), .ref (fa0 24), .ref (fa0 25), .ref (fa0 19), .int 0, .int 0, .int (-1), .int 0, .int 0, .int 0]))]) [0] (by decide) rfl
  refine W.widen (k := 0) (n := 0) (by decide +kernel) (by decide +kernel) ?_
  exact W.iret (v := 0) hx hb hr (fun t ht hW => ⟨⟨0, sq_u [] [], rfl, rfl, pq_B.of ht hP9 hD9⟩, hS.F ht⟩) hS.2.2 dX10_count_52
def wq_X10_count_2_r1 : List Cond := [Cond.fieldLink RX10 87 "CodePress" "shown" "LCodePress$Writer;", Cond.fieldLink RX10 166 "CodePress$Writer" "size" "I"]
def wq_X10_count_2 : List Cond := Cond.code yX10_count cX10_count 2 (some .int) :: (wq_X10_count_2_r1 ++ wsX100 ++ wsX90)
theorem iq_X10_count_2_X10 : ∀ w ∈ wsX100, w ∈ wq_X10_count_2 := fun _ h => List.mem_cons_of_mem _ (List.mem_append_left _ (List.mem_append_right _ h))
theorem iq_X10_count_2_X9 : ∀ w ∈ wsX90, w ∈ wq_X10_count_2 := fun _ h => List.mem_cons_of_mem _ (List.mem_append_right _ h)
set_option maxHeartbeats 4000000 in
set_option maxRecDepth 100000 in
theorem cq_X10_count_2 (l : Launch) (dC : Nat → ClassId) (dI : Nat → Nat → Nat) (cB cI cJ cZ : ClassId) (h0 : Nat) (fa0 : Nat → Nat) (sz : Nat) : Met l yX10_count wq_X10_count_2 ({ frames := 0, cells := 0, slots := 0, locals := 0 }) (va_Pc [.ref h0, .int 2] (pq_W (dC, dI) vwCl (tyQ cB cI cJ cZ) [(h0, .inr (10, [.ref (fa0 0), .ref (fa0 1), .ref (fa0 2), .ref (fa0 20), .ref (fa0 21), .ref (fa0 16), .ref (fa0 17), .ref (fa0 22), .ref (fa0 23), .ref (fa0 18), .ref (fa0 24), .ref (fa0 25), .ref (fa0 19), .int 0, .int 0, .int (-1), .int 0, .int 0, .int 0])), ((fa0 18), .inr (9, [.ref (fa0 2), .ref (fa0 1), .ref (fa0 20), .ref (fa0 21), .ref (fa0 38), .int 0, .int 0, .int 0]))] sz)) (va_Qi (fun (r : Int32) (_ : SQ) => r = 0) (fun u => pq_B (dC, dI) vwCl [(h0, .inr (10, [.ref (fa0 0), .ref (fa0 1), .ref (fa0 2), .ref (fa0 20), .ref (fa0 21), .ref (fa0 16), .ref (fa0 17), .ref (fa0 22), .ref (fa0 23), .ref (fa0 18), .ref (fa0 24), .ref (fa0 25), .ref (fa0 19), .int 0, .int 0, .int (-1), .int 0, .int 0, .int 0])), ((fa0 18), .inr (9, [.ref (fa0 2), .ref (fa0 1), .ref (fa0 20), .ref (fa0 21), .ref (fa0 38), .int 0, .int 0, .int 0]))] (va_A [(h0, .inr (10, [.ref (fa0 0), .ref (fa0 1), .ref (fa0 2), .ref (fa0 20), .ref (fa0 21), .ref (fa0 16), .ref (fa0 17), .ref (fa0 22), .ref (fa0 23), .ref (fa0 18), .ref (fa0 24), .ref (fa0 25), .ref (fa0 19), .int 0, .int 0, .int (-1), .int 0, .int 0, .int 0])), ((fa0 18), .inr (9, [.ref (fa0 2), .ref (fa0 1), .ref (fa0 20), .ref (fa0 21), .ref (fa0 38), .int 0, .int 0, .int 0]))] sz)) (va_A [(h0, .inr (10, [.ref (fa0 0), .ref (fa0 1), .ref (fa0 2), .ref (fa0 20), .ref (fa0 21), .ref (fa0 16), .ref (fa0 17), .ref (fa0 22), .ref (fa0 23), .ref (fa0 18), .ref (fa0 24), .ref (fa0 25), .ref (fa0 19), .int 0, .int 0, .int (-1), .int 0, .int 0, .int 0])), ((fa0 18), .inr (9, [.ref (fa0 2), .ref (fa0 1), .ref (fa0 20), .ref (fa0 21), .ref (fa0 38), .int 0, .int 0, .int 0]))] sz)) 0 0 (va_A [(h0, .inr (10, [.ref (fa0 0), .ref (fa0 1), .ref (fa0 2), .ref (fa0 20), .ref (fa0 21), .ref (fa0 16), .ref (fa0 17), .ref (fa0 22), .ref (fa0 23), .ref (fa0 18), .ref (fa0 24), .ref (fa0 25), .ref (fa0 19), .int 0, .int 0, .int (-1), .int 0, .int 0, .int 0])), ((fa0 18), .inr (9, [.ref (fa0 2), .ref (fa0 1), .ref (fa0 20), .ref (fa0 21), .ref (fa0 38), .int 0, .int 0, .int 0]))] sz) := by
  refine Met.ofW (cc := cX10_count) (maxL := 2) (ret := (some .int)) (by decide) rfl ?_
  intro p e s m args below meth c s₁ B hml hv
  obtain ⟨rfl, hsz, hP, hK, hD0⟩ := hv
  have hx := B.exec
  have hb := B.bytes
  have hr := B.returns
  have hts := atoms_spec (ws := wq_X10_count_2) B.pre
  have hown : s.vm.findClass RX10 = some m.cls := findClass_of_methodNamed B.named
  have hlocks := B.notSynchronized
  subst hsz
  have hD := hD0.self (sz := s.heap.size)
  generalize hAe : va_A [(h0, .inr (10, [.ref (fa0 0), .ref (fa0 1), .ref (fa0 2), .ref (fa0 20), .ref (fa0 21), .ref (fa0 16), .ref (fa0 17), .ref (fa0 22), .ref (fa0 23), .ref (fa0 18), .ref (fa0 24), .ref (fa0 25), .ref (fa0 19), .int 0, .int 0, .int (-1), .int 0, .int 0, .int 0])), ((fa0 18), .inr (9, [.ref (fa0 2), .ref (fa0 1), .ref (fa0 20), .ref (fa0 21), .ref (fa0 38), .int 0, .int 0, .int 0]))] s.heap.size = A at hD ⊢
  have hA : ∀ q : Nat, s.heap.size ≤ q → A q := fun q h => by rw [← hAe]; exact Or.inr h
  have hS : va_S A s.heap s.heap [] := va_S.rf
  have hP : va_P (dC, dI) vwCl [(h0, .inr (10, [.ref (fa0 0), .ref (fa0 1), .ref (fa0 2), .ref (fa0 20), .ref (fa0 21), .ref (fa0 16), .ref (fa0 17), .ref (fa0 22), .ref (fa0 23), .ref (fa0 18), .ref (fa0 24), .ref (fa0 25), .ref (fa0 19), .int 0, .int 0, .int (-1), .int 0, .int 0, .int 0])), ((fa0 18), .inr (9, [.ref (fa0 2), .ref (fa0 1), .ref (fa0 20), .ref (fa0 21), .ref (fa0 38), .int 0, .int 0, .int 0]))] s.heap := hP
  obtain ⟨H, hH⟩ : ∃ H, H = s.heap := ⟨_, rfl⟩
  rw [← hH] at hP
  have hS : va_S A s.heap H [] := by rw [hH]; exact hS
  have hl := lv_entry ([.ref h0, .int 2]) (n := 2) (Nat.le_of_ble_eq_true rfl)
  rw [lg_entry_eq]
  generalize (lg_sl ([.ref h0, .int 2]) ++ List.replicate (2 - (lg_sl ([.ref h0, .int 2])).length) Slot.unset).toArray = ls at hl ⊢
  have hl : lv_has ls 2 [(0, .ref h0), (1, .int 2)] := hl
  refine pq_heap hH ?_
  refine lv_iload_n hx hb dX10_count_0 rfl (lv_at hl 1 rfl) ?_
  refine lv_tableIn (off := 52) (tgt := 53) hx hb dX10_count_1 (by decide) (by decide) (by decide) (by decide) ?_
  refine lv_aload_n hx hb dX10_count_53 rfl (lv_at hl 0 rfl) ?_
  refine va_get (D := (dC, dI)) (ci := 10) (v := .ref (fa0 18)) (C := RX10) (T := TX10) (N := 19) hx hb hts iq_X10_count_2_X10 hown hK hP 0 rfl rfl 9 (by decide) (hts (Cond.fieldLink RX10 87 "CodePress" "shown" "LCodePress$Writer;") (List.mem_of_getElem? (i := 1) rfl)) (fun _ h9 => h9) rfl dX10_count_54 ?_
  refine va_get (D := (dC, dI)) (ci := 9) (v := .int 0) (C := RX9) (T := TX9) (N := 8) hx hb hts iq_X10_count_2_X9 hown hK hP 1 rfl rfl 5 (by decide) (hts (Cond.fieldLink RX10 166 "CodePress$Writer" "size" "I") (List.mem_of_getElem? (i := 2) rfl)) (fun _ h9 => h9) rfl dX10_count_57 ?_
  have hP9 := pq_P.pick (wc := [(h0, .inr (10, [.ref (fa0 0), .ref (fa0 1), .ref (fa0 2), .ref (fa0 20), .ref (fa0 21), .ref (fa0 16), .ref (fa0 17), .ref (fa0 22), .ref (fa0 23), .ref (fa0 18), .ref (fa0 24), .ref (fa0 25), .ref (fa0 19), .int 0, .int 0, .int (-1), .int 0, .int 0, .int 0])), ((fa0 18), .inr (9, [.ref (fa0 2), .ref (fa0 1), .ref (fa0 20), .ref (fa0 21), .ref (fa0 38), .int 0, .int 0, .int 0]))]) hP [0, 1] rfl
  have hD9 := hD.sub (ws' := [(h0, .inr (10, [.ref (fa0 0), .ref (fa0 1), .ref (fa0 2), .ref (fa0 20), .ref (fa0 21), .ref (fa0 16), .ref (fa0 17), .ref (fa0 22), .ref (fa0 23), .ref (fa0 18), .ref (fa0 24), .ref (fa0 25), .ref (fa0 19), .int 0, .int 0, .int (-1), .int 0, .int 0, .int 0])), ((fa0 18), .inr (9, [.ref (fa0 2), .ref (fa0 1), .ref (fa0 20), .ref (fa0 21), .ref (fa0 38), .int 0, .int 0, .int 0]))]) [0, 1] (by decide) rfl
  refine W.widen (k := 0) (n := 0) (by decide +kernel) (by decide +kernel) ?_
  exact W.iret (v := 0) hx hb hr (fun t ht hW => ⟨⟨0, sq_u [] [], rfl, rfl, pq_B.of ht hP9 hD9⟩, hS.F ht⟩) hS.2.2 dX10_count_60
def wq_X10_count_3_r1 : List Cond := [Cond.fieldLink RX10 188 "CodePress" "gaveValue" "I"]
def wq_X10_count_3 : List Cond := Cond.code yX10_count cX10_count 2 (some .int) :: (wq_X10_count_3_r1 ++ wsX100)
theorem iq_X10_count_3_X10 : ∀ w ∈ wsX100, w ∈ wq_X10_count_3 := fun _ h => List.mem_cons_of_mem _ (List.mem_append_right _ h)
set_option maxHeartbeats 4000000 in
set_option maxRecDepth 100000 in
theorem cq_X10_count_3 (l : Launch) (dC : Nat → ClassId) (dI : Nat → Nat → Nat) (cB cI cJ cZ : ClassId) (h0 : Nat) (fa0 : Nat → Nat) (sz : Nat) : Met l yX10_count wq_X10_count_3 ({ frames := 0, cells := 0, slots := 0, locals := 0 }) (va_Pc [.ref h0, .int 3] (pq_W (dC, dI) vwCl (tyQ cB cI cJ cZ) [(h0, .inr (10, [.ref (fa0 0), .ref (fa0 1), .ref (fa0 2), .ref (fa0 20), .ref (fa0 21), .ref (fa0 16), .ref (fa0 17), .ref (fa0 22), .ref (fa0 23), .ref (fa0 18), .ref (fa0 24), .ref (fa0 25), .ref (fa0 19), .int 0, .int 0, .int (-1), .int 0, .int 0, .int 0]))] sz)) (va_Qi (fun (r : Int32) (_ : SQ) => r = 0) (fun u => pq_B (dC, dI) vwCl [(h0, .inr (10, [.ref (fa0 0), .ref (fa0 1), .ref (fa0 2), .ref (fa0 20), .ref (fa0 21), .ref (fa0 16), .ref (fa0 17), .ref (fa0 22), .ref (fa0 23), .ref (fa0 18), .ref (fa0 24), .ref (fa0 25), .ref (fa0 19), .int 0, .int 0, .int (-1), .int 0, .int 0, .int 0]))] (va_A [(h0, .inr (10, [.ref (fa0 0), .ref (fa0 1), .ref (fa0 2), .ref (fa0 20), .ref (fa0 21), .ref (fa0 16), .ref (fa0 17), .ref (fa0 22), .ref (fa0 23), .ref (fa0 18), .ref (fa0 24), .ref (fa0 25), .ref (fa0 19), .int 0, .int 0, .int (-1), .int 0, .int 0, .int 0]))] sz)) (va_A [(h0, .inr (10, [.ref (fa0 0), .ref (fa0 1), .ref (fa0 2), .ref (fa0 20), .ref (fa0 21), .ref (fa0 16), .ref (fa0 17), .ref (fa0 22), .ref (fa0 23), .ref (fa0 18), .ref (fa0 24), .ref (fa0 25), .ref (fa0 19), .int 0, .int 0, .int (-1), .int 0, .int 0, .int 0]))] sz)) 0 0 (va_A [(h0, .inr (10, [.ref (fa0 0), .ref (fa0 1), .ref (fa0 2), .ref (fa0 20), .ref (fa0 21), .ref (fa0 16), .ref (fa0 17), .ref (fa0 22), .ref (fa0 23), .ref (fa0 18), .ref (fa0 24), .ref (fa0 25), .ref (fa0 19), .int 0, .int 0, .int (-1), .int 0, .int 0, .int 0]))] sz) := by
  refine Met.ofW (cc := cX10_count) (maxL := 2) (ret := (some .int)) (by decide) rfl ?_
  intro p e s m args below meth c s₁ B hml hv
  obtain ⟨rfl, hsz, hP, hK, hD0⟩ := hv
  have hx := B.exec
  have hb := B.bytes
  have hr := B.returns
  have hts := atoms_spec (ws := wq_X10_count_3) B.pre
  have hown : s.vm.findClass RX10 = some m.cls := findClass_of_methodNamed B.named
  have hlocks := B.notSynchronized
  subst hsz
  have hD := hD0.self (sz := s.heap.size)
  generalize hAe : va_A [(h0, .inr (10, [.ref (fa0 0), .ref (fa0 1), .ref (fa0 2), .ref (fa0 20), .ref (fa0 21), .ref (fa0 16), .ref (fa0 17), .ref (fa0 22), .ref (fa0 23), .ref (fa0 18), .ref (fa0 24), .ref (fa0 25), .ref (fa0 19), .int 0, .int 0, .int (-1), .int 0, .int 0, .int 0]))] s.heap.size = A at hD ⊢
  have hA : ∀ q : Nat, s.heap.size ≤ q → A q := fun q h => by rw [← hAe]; exact Or.inr h
  have hS : va_S A s.heap s.heap [] := va_S.rf
  have hP : va_P (dC, dI) vwCl [(h0, .inr (10, [.ref (fa0 0), .ref (fa0 1), .ref (fa0 2), .ref (fa0 20), .ref (fa0 21), .ref (fa0 16), .ref (fa0 17), .ref (fa0 22), .ref (fa0 23), .ref (fa0 18), .ref (fa0 24), .ref (fa0 25), .ref (fa0 19), .int 0, .int 0, .int (-1), .int 0, .int 0, .int 0]))] s.heap := hP
  obtain ⟨H, hH⟩ : ∃ H, H = s.heap := ⟨_, rfl⟩
  rw [← hH] at hP
  have hS : va_S A s.heap H [] := by rw [hH]; exact hS
  have hl := lv_entry ([.ref h0, .int 3]) (n := 2) (Nat.le_of_ble_eq_true rfl)
  rw [lg_entry_eq]
  generalize (lg_sl ([.ref h0, .int 3]) ++ List.replicate (2 - (lg_sl ([.ref h0, .int 3])).length) Slot.unset).toArray = ls at hl ⊢
  have hl : lv_has ls 2 [(0, .ref h0), (1, .int 3)] := hl
  refine pq_heap hH ?_
  refine lv_iload_n hx hb dX10_count_0 rfl (lv_at hl 1 rfl) ?_
  refine lv_tableIn (off := 60) (tgt := 61) hx hb dX10_count_1 (by decide) (by decide) (by decide) (by decide) ?_
  refine lv_aload_n hx hb dX10_count_61 rfl (lv_at hl 0 rfl) ?_
  refine va_get (D := (dC, dI)) (ci := 10) (v := .int 0) (C := RX10) (T := TX10) (N := 19) hx hb hts iq_X10_count_3_X10 hown hK hP 0 rfl rfl 16 (by decide) (hts (Cond.fieldLink RX10 188 "CodePress" "gaveValue" "I") (List.mem_of_getElem? (i := 1) rfl)) (fun _ h9 => h9) rfl dX10_count_62 ?_
  have hP9 := pq_P.pick (wc := [(h0, .inr (10, [.ref (fa0 0), .ref (fa0 1), .ref (fa0 2), .ref (fa0 20), .ref (fa0 21), .ref (fa0 16), .ref (fa0 17), .ref (fa0 22), .ref (fa0 23), .ref (fa0 18), .ref (fa0 24), .ref (fa0 25), .ref (fa0 19), .int 0, .int 0, .int (-1), .int 0, .int 0, .int 0]))]) hP [0] rfl
  have hD9 := hD.sub (ws' := [(h0, .inr (10, [.ref (fa0 0), .ref (fa0 1), .ref (fa0 2), .ref (fa0 20), .ref (fa0 21), .ref (fa0 16), .ref (fa0 17), .ref (fa0 22), .ref (fa0 23), .ref (fa0 18), .ref (fa0 24), .ref (fa0 25), .ref (fa0 19), .int 0, .int 0, .int (-1), .int 0, .int 0, .int 0]))]) [0] (by decide) rfl
  refine W.widen (k := 0) (n := 0) (by decide +kernel) (by decide +kernel) ?_
  exact W.iret (v := 0) hx hb hr (fun t ht hW => ⟨⟨0, sq_u [] [], rfl, rfl, pq_B.of ht hP9 hD9⟩, hS.F ht⟩) hS.2.2 dX10_count_65
def wq_X10_count_4 : List Cond := Cond.code yX10_count cX10_count 2 (some .int) :: (([] : List Cond))
set_option maxHeartbeats 4000000 in
set_option maxRecDepth 100000 in
theorem cq_X10_count_4 (l : Launch) (dC : Nat → ClassId) (dI : Nat → Nat → Nat) (cB cI cJ cZ : ClassId) (a0 : Nat) (x0 : Int32) (sz : Nat) (k0 : ¬ x0 = 0) (k1 : ¬ x0 = 1) (k2 : ¬ x0 = 2) (k3 : ¬ x0 = 3) (k5 : x0.toInt < 0 ∨ 3 < x0.toInt) : Met l yX10_count wq_X10_count_4 ({ frames := 0, cells := 0, slots := 0, locals := 0 }) (va_Pc [.ref a0, .int x0] (pq_W (dC, dI) vwCl (tyQ cB cI cJ cZ) [] sz)) (va_Qi (fun (r : Int32) (_ : SQ) => r = (-1)) (fun u => pq_B (dC, dI) vwCl [] (va_A [] sz)) (va_A [] sz)) 0 0 (va_A [] sz) := by
  refine Met.ofW (cc := cX10_count) (maxL := 2) (ret := (some .int)) (by decide) rfl ?_
  intro p e s m args below meth c s₁ B hml hv
  obtain ⟨rfl, hsz, hP, hK, hD0⟩ := hv
  have hx := B.exec
  have hb := B.bytes
  have hr := B.returns
  have hts := atoms_spec (ws := wq_X10_count_4) B.pre
  have hown : s.vm.findClass RX10 = some m.cls := findClass_of_methodNamed B.named
  have hlocks := B.notSynchronized
  subst hsz
  have hD := hD0.self (sz := s.heap.size)
  generalize hAe : va_A [] s.heap.size = A at hD ⊢
  have hA : ∀ q : Nat, s.heap.size ≤ q → A q := fun q h => by rw [← hAe]; exact Or.inr h
  have hS : va_S A s.heap s.heap [] := va_S.rf
  have hP : va_P (dC, dI) vwCl [] s.heap := hP
  obtain ⟨H, hH⟩ : ∃ H, H = s.heap := ⟨_, rfl⟩
  rw [← hH] at hP
  have hS : va_S A s.heap H [] := by rw [hH]; exact hS
  have hl := lv_entry ([.ref a0, .int x0]) (n := 2) (Nat.le_of_ble_eq_true rfl)
  rw [lg_entry_eq]
  generalize (lg_sl ([.ref a0, .int x0]) ++ List.replicate (2 - (lg_sl ([.ref a0, .int x0])).length) Slot.unset).toArray = ls at hl ⊢
  have hl : lv_has ls 2 [(0, .ref a0), (1, .int x0)] := hl
  refine pq_heap hH ?_
  refine lv_iload_n hx hb dX10_count_0 rfl (lv_at hl 1 rfl) ?_
  refine lv_tableOut (tgt := 66) hx hb dX10_count_1 k5 (by decide) ?_
  refine lv_iconst (v := (-1)) hx hb dX10_count_66 (by decide) ?_
  have hP9 := pq_P.pick (wc := []) hP [] rfl
  have hD9 := hD.sub (ws' := []) [] (by decide) rfl
  refine W.widen (k := 0) (n := 0) (by decide +kernel) (by decide +kernel) ?_
  exact W.iret (v := (-1)) hx hb hr (fun t ht hW => ⟨⟨(-1), sq_u [] [], rfl, rfl, pq_B.of ht hP9 hD9⟩, hS.F ht⟩) hS.2.2 dX10_count_67
