def wq_X11_four_r1 : List Cond := [Cond.fieldLink RX11 3 "CodePressModel" "tape" "[I", Cond.fieldLink RX11 7 "CodePressModel" "taped" "I"]
def wq_X11_four : List Cond := Cond.code yX11_four cX11_four 3 none :: (wq_X11_four_r1 ++ wsX110)
theorem iq_X11_four_X11 : ∀ w ∈ wsX110, w ∈ wq_X11_four := fun _ h => List.mem_cons_of_mem _ (List.mem_append_right _ h)
set_option maxHeartbeats 4000000 in
set_option maxRecDepth 100000 in
theorem cq_X11_four (l : Launch) (dC : Nat → ClassId) (dI : Nat → Nat → Nat) (cB cI cJ cZ : ClassId) (h0 : Nat) (fa0 : Nat → Nat) (x0 : Int32) (sz : Nat) : Met l yX11_four wq_X11_four ({ frames := 0, cells := 0, slots := 0, locals := 0 }) (va_Pc [.ref h0, .int x0] (pq_W (dC, dI) vwCl (tyQ cB cI cJ cZ) [(h0, .inr (11, mo0 fa0)), ((fa0 0), .inl (cI, 3000, .inl (fun _ => 0)))] sz)) (va_Qv (fun (_ : SQ) => True) (fun u => pq_B (dC, dI) vwCl [(h0, .inr (11, mo4 fa0)), ((fa0 0), .inl (cI, 3000, .inl (upd (upd (upd (upd (fun _ => 0) 0 ((x0 >>> (24 &&& 31)) &&& 255)) 1 ((x0 >>> (16 &&& 31)) &&& 255)) 2 ((x0 >>> (8 &&& 31)) &&& 255)) 3 ((x0 >>> (0 &&& 31)) &&& 255))))] (va_A [(h0, .inr (11, mo0 fa0)), ((fa0 0), .inl (cI, 3000, .inl (fun _ => 0)))] sz)) (va_A [(h0, .inr (11, mo0 fa0)), ((fa0 0), .inl (cI, 3000, .inl (fun _ => 0)))] sz)) 0 0 (va_A [(h0, .inr (11, mo0 fa0)), ((fa0 0), .inl (cI, 3000, .inl (fun _ => 0)))] sz) := by
  refine Met.ofW (cc := cX11_four) (maxL := 3) (ret := none) (by decide) rfl ?_
  intro p e s m args below meth c s₁ B hml hv
  obtain ⟨rfl, hsz, hP, hK, hD0⟩ := hv
  have hx := B.exec
  have hb := B.bytes
  have hr := B.returns
  have hts := atoms_spec (ws := wq_X11_four) B.pre
  have hown : s.vm.findClass RX11 = some m.cls := findClass_of_methodNamed B.named
  have hlocks := B.notSynchronized
  subst hsz
  have hD := hD0.self (sz := s.heap.size)
  generalize hAe : va_A [(h0, .inr (11, mo0 fa0)), ((fa0 0), .inl (cI, 3000, .inl (fun _ => 0)))] s.heap.size = A at hD ⊢
  have hA : ∀ q : Nat, s.heap.size ≤ q → A q := fun q h => by rw [← hAe]; exact Or.inr h
  have hS : va_S A s.heap s.heap [] := va_S.rf
  have hP : va_P (dC, dI) vwCl [(h0, .inr (11, mo0 fa0)), ((fa0 0), .inl (cI, 3000, .inl (fun _ => 0)))] s.heap := hP
  obtain ⟨H, hH⟩ : ∃ H, H = s.heap := ⟨_, rfl⟩
  rw [← hH] at hP
  have hS : va_S A s.heap H [] := by rw [hH]; exact hS
  have hl := lv_entry ([.ref h0, .int x0]) (n := 3) (Nat.le_of_ble_eq_true rfl)
  rw [lg_entry_eq]
  generalize (lg_sl ([.ref h0, .int x0]) ++ List.replicate (3 - (lg_sl ([.ref h0, .int x0])).length) Slot.unset).toArray = ls at hl ⊢
  have hl : lv_has ls 3 [(0, .ref h0), (1, .int x0)] := hl
  refine pq_heap hH ?_
  refine lv_bipush (v := 24) hx hb dX11_four_0 (by decide) ?_
  refine lv_istore_n (lv' := [(2, .int 24), (0, .ref h0), (1, .int x0)]) hx hb dX11_four_2 rfl hl (by decide) rfl (fun ls hl => ?_)
  refine lv_iload_n hx hb dX11_four_3 rfl (lv_at hl 0 rfl) ?_
  refine lv_if_lt (tgt := 39) hx hb dX11_four_4 (by decide) (fun c_ => absurd c_ (by decide)) (fun _ => ?_)
  refine lv_aload_n hx hb dX11_four_7 rfl (lv_at hl 1 rfl) ?_
  refine va_get (D := (dC, dI)) (ci := 11) (v := .ref (fa0 0)) (C := RX11) (T := TX11) (N := 122) hx hb hts iq_X11_four_X11 hown hK hP 0 rfl rfl 0 (by decide) (hts (Cond.fieldLink RX11 3 "CodePressModel" "tape" "[I") (List.mem_of_getElem? (i := 1) rfl)) (fun _ h9 => h9) rfl dX11_four_8 ?_
  refine lv_aload_n hx hb dX11_four_11 rfl (lv_at hl 1 rfl) ?_
  refine va_get (D := (dC, dI)) (ci := 11) (v := .int 0) (C := RX11) (T := TX11) (N := 122) hx hb hts iq_X11_four_X11 hown hK hP 0 rfl rfl 1 (by decide) (hts (Cond.fieldLink RX11 7 "CodePressModel" "taped" "I") (List.mem_of_getElem? (i := 2) rfl)) (fun _ h9 => h9) rfl dX11_four_12 ?_
  refine lv_iload_n hx hb dX11_four_15 rfl (lv_at hl 2 rfl) ?_
  refine lv_iload_n hx hb dX11_four_16 rfl (lv_at hl 0 rfl) ?_
  refine lv_ishr hx hb dX11_four_17 ?_
  refine lv_sipush (v := 255) hx hb dX11_four_18 (by decide) ?_
  refine lv_iand hx hb dX11_four_21 ?_
  refine va_iast hx hb hK hP hD hS 1 1 rfl rfl (pq_in (by decide)) dX11_four_22 (fun H locs hP hD hS => ?_)
  have hR9 : pq_R (dC, dI) vwCl A [(h0, .inr (11, mo0 fa0)), ((fa0 0), .inl (cI, 3000, .inl (upd (fun _ => 0) 0 ((x0 >>> (24 &&& 31)) &&& 255))))] H := ⟨hP, hD⟩
  have hP := hR9.1
  have hD := hR9.2
  refine lv_aload_n hx hb dX11_four_23 rfl (lv_at hl 1 rfl) ?_
  refine lv_dup hx hb dX11_four_24 rfl ?_
  refine va_get (D := (dC, dI)) (ci := 11) (v := .int 0) (C := RX11) (T := TX11) (N := 122) hx hb hts iq_X11_four_X11 hown hK hP 0 rfl rfl 1 (by decide) (hts (Cond.fieldLink RX11 7 "CodePressModel" "taped" "I") (List.mem_of_getElem? (i := 2) rfl)) (fun _ h9 => h9) rfl dX11_four_25 ?_
  refine lv_iconst (v := 1) hx hb dX11_four_28 (by decide) ?_
  refine lv_iadd hx hb dX11_four_29 ?_
  refine lv_topi (fun x1 ex1 => ?_)
  obtain rfl : x1 = 1 := ex1.trans (by decide)
  refine va_put (D := (dC, dI)) (ci := 11) (v := .int 1) (ty := .int) (C := RX11) (T := TX11) (N := 122) hx hb hts iq_X11_four_X11 tyX11 tyX11_ok nmX11 hown hK hP hD hS 0 rfl rfl 1 (by decide) (hts (Cond.fieldLink RX11 7 "CodePressModel" "taped" "I") (List.mem_of_getElem? (i := 2) rfl)) (fun _ h9 => h9) rfl (by decide +kernel) rfl rfl (Nat.le_of_ble_eq_true rfl) dX11_four_30 (fun H locs hP hD hS => ?_)
  have hR9 : pq_R (dC, dI) vwCl A [(h0, .inr (11, mo1 fa0)), ((fa0 0), .inl (cI, 3000, .inl (upd (fun _ => 0) 0 ((x0 >>> (24 &&& 31)) &&& 255))))] H := ⟨hP, hD⟩
  have hP := hR9.1
  have hD := hR9.2
  refine lv_iinc (v := 16) (lv' := [(2, .int 16), (0, .ref h0), (1, .int x0)]) hx hb dX11_four_33 hl (k := 0) rfl (by decide) (by decide) rfl (fun ls hl => ?_)
  refine lv_goto (tgt := 3) hx hb dX11_four_36 (by decide) ?_
  refine lv_iload_n hx hb dX11_four_3 rfl (lv_at hl 0 rfl) ?_
  refine lv_if_lt (tgt := 39) hx hb dX11_four_4 (by decide) (fun c_ => absurd c_ (by decide)) (fun _ => ?_)
  refine lv_aload_n hx hb dX11_four_7 rfl (lv_at hl 1 rfl) ?_
  refine va_get (D := (dC, dI)) (ci := 11) (v := .ref (fa0 0)) (C := RX11) (T := TX11) (N := 122) hx hb hts iq_X11_four_X11 hown hK hP 0 rfl rfl 0 (by decide) (hts (Cond.fieldLink RX11 3 "CodePressModel" "tape" "[I") (List.mem_of_getElem? (i := 1) rfl)) (fun _ h9 => h9) rfl dX11_four_8 ?_
  refine lv_aload_n hx hb dX11_four_11 rfl (lv_at hl 1 rfl) ?_
  refine va_get (D := (dC, dI)) (ci := 11) (v := .int 1) (C := RX11) (T := TX11) (N := 122) hx hb hts iq_X11_four_X11 hown hK hP 0 rfl rfl 1 (by decide) (hts (Cond.fieldLink RX11 7 "CodePressModel" "taped" "I") (List.mem_of_getElem? (i := 2) rfl)) (fun _ h9 => h9) rfl dX11_four_12 ?_
  refine lv_iload_n hx hb dX11_four_15 rfl (lv_at hl 2 rfl) ?_
  refine lv_iload_n hx hb dX11_four_16 rfl (lv_at hl 0 rfl) ?_
  refine lv_ishr hx hb dX11_four_17 ?_
  refine lv_sipush (v := 255) hx hb dX11_four_18 (by decide) ?_
  refine lv_iand hx hb dX11_four_21 ?_
  refine va_iast hx hb hK hP hD hS 1 1 rfl rfl (pq_in (by decide)) dX11_four_22 (fun H locs hP hD hS => ?_)
  have hR9 : pq_R (dC, dI) vwCl A [(h0, .inr (11, mo1 fa0)), ((fa0 0), .inl (cI, 3000, .inl (upd (upd (fun _ => 0) 0 ((x0 >>> (24 &&& 31)) &&& 255)) 1 ((x0 >>> (16 &&& 31)) &&& 255))))] H := ⟨hP, hD⟩
  have hP := hR9.1
  have hD := hR9.2
  refine lv_aload_n hx hb dX11_four_23 rfl (lv_at hl 1 rfl) ?_
  refine lv_dup hx hb dX11_four_24 rfl ?_
  refine va_get (D := (dC, dI)) (ci := 11) (v := .int 1) (C := RX11) (T := TX11) (N := 122) hx hb hts iq_X11_four_X11 hown hK hP 0 rfl rfl 1 (by decide) (hts (Cond.fieldLink RX11 7 "CodePressModel" "taped" "I") (List.mem_of_getElem? (i := 2) rfl)) (fun _ h9 => h9) rfl dX11_four_25 ?_
  refine lv_iconst (v := 1) hx hb dX11_four_28 (by decide) ?_
  refine lv_iadd hx hb dX11_four_29 ?_
  refine lv_topi (fun x2 ex2 => ?_)
  obtain rfl : x2 = 2 := ex2.trans (by decide)
  refine va_put (D := (dC, dI)) (ci := 11) (v := .int 2) (ty := .int) (C := RX11) (T := TX11) (N := 122) hx hb hts iq_X11_four_X11 tyX11 tyX11_ok nmX11 hown hK hP hD hS 0 rfl rfl 1 (by decide) (hts (Cond.fieldLink RX11 7 "CodePressModel" "taped" "I") (List.mem_of_getElem? (i := 2) rfl)) (fun _ h9 => h9) rfl (by decide +kernel) rfl rfl (Nat.le_of_ble_eq_true rfl) dX11_four_30 (fun H locs hP hD hS => ?_)
  have hR9 : pq_R (dC, dI) vwCl A [(h0, .inr (11, mo2 fa0)), ((fa0 0), .inl (cI, 3000, .inl (upd (upd (fun _ => 0) 0 ((x0 >>> (24 &&& 31)) &&& 255)) 1 ((x0 >>> (16 &&& 31)) &&& 255))))] H := ⟨hP, hD⟩
  have hP := hR9.1
  have hD := hR9.2
  refine lv_iinc (v := 8) (lv' := [(2, .int 8), (0, .ref h0), (1, .int x0)]) hx hb dX11_four_33 hl (k := 0) rfl (by decide) (by decide) rfl (fun ls hl => ?_)
  refine lv_goto (tgt := 3) hx hb dX11_four_36 (by decide) ?_
  refine lv_iload_n hx hb dX11_four_3 rfl (lv_at hl 0 rfl) ?_
  refine lv_if_lt (tgt := 39) hx hb dX11_four_4 (by decide) (fun c_ => absurd c_ (by decide)) (fun _ => ?_)
  refine lv_aload_n hx hb dX11_four_7 rfl (lv_at hl 1 rfl) ?_
  refine va_get (D := (dC, dI)) (ci := 11) (v := .ref (fa0 0)) (C := RX11) (T := TX11) (N := 122) hx hb hts iq_X11_four_X11 hown hK hP 0 rfl rfl 0 (by decide) (hts (Cond.fieldLink RX11 3 "CodePressModel" "tape" "[I") (List.mem_of_getElem? (i := 1) rfl)) (fun _ h9 => h9) rfl dX11_four_8 ?_
  refine lv_aload_n hx hb dX11_four_11 rfl (lv_at hl 1 rfl) ?_
  refine va_get (D := (dC, dI)) (ci := 11) (v := .int 2) (C := RX11) (T := TX11) (N := 122) hx hb hts iq_X11_four_X11 hown hK hP 0 rfl rfl 1 (by decide) (hts (Cond.fieldLink RX11 7 "CodePressModel" "taped" "I") (List.mem_of_getElem? (i := 2) rfl)) (fun _ h9 => h9) rfl dX11_four_12 ?_
  refine lv_iload_n hx hb dX11_four_15 rfl (lv_at hl 2 rfl) ?_
  refine lv_iload_n hx hb dX11_four_16 rfl (lv_at hl 0 rfl) ?_
  refine lv_ishr hx hb dX11_four_17 ?_
  refine lv_sipush (v := 255) hx hb dX11_four_18 (by decide) ?_
  refine lv_iand hx hb dX11_four_21 ?_
  refine va_iast hx hb hK hP hD hS 1 1 rfl rfl (pq_in (by decide)) dX11_four_22 (fun H locs hP hD hS => ?_)
  have hR9 : pq_R (dC, dI) vwCl A [(h0, .inr (11, mo2 fa0)), ((fa0 0), .inl (cI, 3000, .inl (upd (upd (upd (fun _ => 0) 0 ((x0 >>> (24 &&& 31)) &&& 255)) 1 ((x0 >>> (16 &&& 31)) &&& 255)) 2 ((x0 >>> (8 &&& 31)) &&& 255))))] H := ⟨hP, hD⟩
  have hP := hR9.1
  have hD := hR9.2
  refine lv_aload_n hx hb dX11_four_23 rfl (lv_at hl 1 rfl) ?_
  refine lv_dup hx hb dX11_four_24 rfl ?_
  refine va_get (D := (dC, dI)) (ci := 11) (v := .int 2) (C := RX11) (T := TX11) (N := 122) hx hb hts iq_X11_four_X11 hown hK hP 0 rfl rfl 1 (by decide) (hts (Cond.fieldLink RX11 7 "CodePressModel" "taped" "I") (List.mem_of_getElem? (i := 2) rfl)) (fun _ h9 => h9) rfl dX11_four_25 ?_
  refine lv_iconst (v := 1) hx hb dX11_four_28 (by decide) ?_
  refine lv_iadd hx hb dX11_four_29 ?_
  refine lv_topi (fun x3 ex3 => ?_)
  obtain rfl : x3 = 3 := ex3.trans (by decide)
  refine va_put (D := (dC, dI)) (ci := 11) (v := .int 3) (ty := .int) (C := RX11) (T := TX11) (N := 122) hx hb hts iq_X11_four_X11 tyX11 tyX11_ok nmX11 hown hK hP hD hS 0 rfl rfl 1 (by decide) (hts (Cond.fieldLink RX11 7 "CodePressModel" "taped" "I") (List.mem_of_getElem? (i := 2) rfl)) (fun _ h9 => h9) rfl (by decide +kernel) rfl rfl (Nat.le_of_ble_eq_true rfl) dX11_four_30 (fun H locs hP hD hS => ?_)
  have hR9 : pq_R (dC, dI) vwCl A [(h0, .inr (11, mo3 fa0)), ((fa0 0), .inl (cI, 3000, .inl (upd (upd (upd (fun _ => 0) 0 ((x0 >>> (24 &&& 31)) &&& 255)) 1 ((x0 >>> (16 &&& 31)) &&& 255)) 2 ((x0 >>> (8 &&& 31)) &&& 255))))] H := ⟨hP, hD⟩
  have hP := hR9.1
  have hD := hR9.2
  refine lv_iinc (v := 0) (lv' := [(2, .int 0), (0, .ref h0), (1, .int x0)]) hx hb dX11_four_33 hl (k := 0) rfl (by decide) (by decide) rfl (fun ls hl => ?_)
  refine lv_goto (tgt := 3) hx hb dX11_four_36 (by decide) ?_
  refine lv_iload_n hx hb dX11_four_3 rfl (lv_at hl 0 rfl) ?_
  refine lv_if_lt (tgt := 39) hx hb dX11_four_4 (by decide) (fun c_ => absurd c_ (by decide)) (fun _ => ?_)
  refine lv_aload_n hx hb dX11_four_7 rfl (lv_at hl 1 rfl) ?_
  refine va_get (D := (dC, dI)) (ci := 11) (v := .ref (fa0 0)) (C := RX11) (T := TX11) (N := 122) hx hb hts iq_X11_four_X11 hown hK hP 0 rfl rfl 0 (by decide) (hts (Cond.fieldLink RX11 3 "CodePressModel" "tape" "[I") (List.mem_of_getElem? (i := 1) rfl)) (fun _ h9 => h9) rfl dX11_four_8 ?_
  refine lv_aload_n hx hb dX11_four_11 rfl (lv_at hl 1 rfl) ?_
  refine va_get (D := (dC, dI)) (ci := 11) (v := .int 3) (C := RX11) (T := TX11) (N := 122) hx hb hts iq_X11_four_X11 hown hK hP 0 rfl rfl 1 (by decide) (hts (Cond.fieldLink RX11 7 "CodePressModel" "taped" "I") (List.mem_of_getElem? (i := 2) rfl)) (fun _ h9 => h9) rfl dX11_four_12 ?_
  refine lv_iload_n hx hb dX11_four_15 rfl (lv_at hl 2 rfl) ?_
  refine lv_iload_n hx hb dX11_four_16 rfl (lv_at hl 0 rfl) ?_
  refine lv_ishr hx hb dX11_four_17 ?_
  refine lv_sipush (v := 255) hx hb dX11_four_18 (by decide) ?_
  refine lv_iand hx hb dX11_four_21 ?_
  refine va_iast hx hb hK hP hD hS 1 1 rfl rfl (pq_in (by decide)) dX11_four_22 (fun H locs hP hD hS => ?_)
  have hR9 : pq_R (dC, dI) vwCl A [(h0, .inr (11, mo3 fa0)), ((fa0 0), .inl (cI, 3000, .inl (upd (upd (upd (upd (fun _ => 0) 0 ((x0 >>> (24 &&& 31)) &&& 255)) 1 ((x0 >>> (16 &&& 31)) &&& 255)) 2 ((x0 >>> (8 &&& 31)) &&& 255)) 3 ((x0 >>> (0 &&& 31)) &&& 255))))] H := ⟨hP, hD⟩
  have hP := hR9.1
  have hD := hR9.2
  refine lv_aload_n hx hb dX11_four_23 rfl (lv_at hl 1 rfl) ?_
  refine lv_dup hx hb dX11_four_24 rfl ?_
  refine va_get (D := (dC, dI)) (ci := 11) (v := .int 3) (C := RX11) (T := TX11) (N := 122) hx hb hts iq_X11_four_X11 hown hK hP 0 rfl rfl 1 (by decide) (hts (Cond.fieldLink RX11 7 "CodePressModel" "taped" "I") (List.mem_of_getElem? (i := 2) rfl)) (fun _ h9 => h9) rfl dX11_four_25 ?_
  refine lv_iconst (v := 1) hx hb dX11_four_28 (by decide) ?_
  refine lv_iadd hx hb dX11_four_29 ?_
  refine lv_topi (fun x4 ex4 => ?_)
  obtain rfl : x4 = 4 := ex4.trans (by decide)
  refine va_put (D := (dC, dI)) (ci := 11) (v := .int 4) (ty := .int) (C := RX11) (T := TX11) (N := 122) hx hb hts iq_X11_four_X11 tyX11 tyX11_ok nmX11 hown hK hP hD hS 0 rfl rfl 1 (by decide) (hts (Cond.fieldLink RX11 7 "CodePressModel" "taped" "I") (List.mem_of_getElem? (i := 2) rfl)) (fun _ h9 => h9) rfl (by decide +kernel) rfl rfl (Nat.le_of_ble_eq_true rfl) dX11_four_30 (fun H locs hP hD hS => ?_)
  have hR9 : pq_R (dC, dI) vwCl A [(h0, .inr (11, mo4 fa0)), ((fa0 0), .inl (cI, 3000, .inl (upd (upd (upd (upd (fun _ => 0) 0 ((x0 >>> (24 &&& 31)) &&& 255)) 1 ((x0 >>> (16 &&& 31)) &&& 255)) 2 ((x0 >>> (8 &&& 31)) &&& 255)) 3 ((x0 >>> (0 &&& 31)) &&& 255))))] H := ⟨hP, hD⟩
  have hP := hR9.1
  have hD := hR9.2
  refine lv_iinc (v := (-8)) (lv' := [(2, .int (-8)), (0, .ref h0), (1, .int x0)]) hx hb dX11_four_33 hl (k := 0) rfl (by decide) (by decide) rfl (fun ls hl => ?_)
  refine lv_goto (tgt := 3) hx hb dX11_four_36 (by decide) ?_
  refine lv_iload_n hx hb dX11_four_3 rfl (lv_at hl 0 rfl) ?_
  refine lv_if_lt (tgt := 39) hx hb dX11_four_4 (by decide) (fun _ => ?_) (fun c_ => absurd (by decide) c_)
  have hP9 := pq_P.pick (wc := [(h0, .inr (11, mo4 fa0)), ((fa0 0), .inl (cI, 3000, .inl (upd (upd (upd (upd (fun _ => 0) 0 ((x0 >>> (24 &&& 31)) &&& 255)) 1 ((x0 >>> (16 &&& 31)) &&& 255)) 2 ((x0 >>> (8 &&& 31)) &&& 255)) 3 ((x0 >>> (0 &&& 31)) &&& 255))))]) hP [0, 1] rfl
  have hD9 := hD.sub (ws' := [(h0, .inr (11, mo4 fa0)), ((fa0 0), .inl (cI, 3000, .inl (upd (upd (upd (upd (fun _ => 0) 0 ((x0 >>> (24 &&& 31)) &&& 255)) 1 ((x0 >>> (16 &&& 31)) &&& 255)) 2 ((x0 >>> (8 &&& 31)) &&& 255)) 3 ((x0 >>> (0 &&& 31)) &&& 255))))]) [0, 1] (by decide) rfl
  refine W.widen (k := 0) (n := 0) (by decide +kernel) (by decide +kernel) ?_
  exact W.vret hx hb hr (fun t ht hW => ⟨⟨sq_u [] [], rfl, trivial, pq_B.of ht hP9 hD9⟩, hS.F ht⟩) hS.2.2 dX11_four_39
def wq_X11_four_1_r1 : List Cond := [Cond.fieldLink RX11 3 "CodePressModel" "tape" "[I", Cond.fieldLink RX11 7 "CodePressModel" "taped" "I"]
def wq_X11_four_1 : List Cond := Cond.code yX11_four cX11_four 3 none :: (wq_X11_four_1_r1 ++ wsX110)
theorem iq_X11_four_1_X11 : ∀ w ∈ wsX110, w ∈ wq_X11_four_1 := fun _ h => List.mem_cons_of_mem _ (List.mem_append_right _ h)
set_option maxHeartbeats 4000000 in
set_option maxRecDepth 100000 in
theorem cq_X11_four_1 (l : Launch) (dC : Nat → ClassId) (dI : Nat → Nat → Nat) (cB cI cJ cZ : ClassId) (h0 : Nat) (fa0 : Nat → Nat) (x0 : Int32) (f0 : Nat → Int32) (sz : Nat) : Met l yX11_four wq_X11_four_1 ({ frames := 0, cells := 0, slots := 0, locals := 0 }) (va_Pc [.ref h0, .int x0] (pq_W (dC, dI) vwCl (tyQ cB cI cJ cZ) [(h0, .inr (11, mo4 fa0)), ((fa0 0), .inl (cI, 3000, .inl f0))] sz)) (va_Qv (fun (_ : SQ) => True) (fun u => pq_B (dC, dI) vwCl [(h0, .inr (11, mo8 fa0)), ((fa0 0), .inl (cI, 3000, .inl (upd (upd (upd (upd f0 4 ((x0 >>> (24 &&& 31)) &&& 255)) 5 ((x0 >>> (16 &&& 31)) &&& 255)) 6 ((x0 >>> (8 &&& 31)) &&& 255)) 7 ((x0 >>> (0 &&& 31)) &&& 255))))] (va_A [(h0, .inr (11, mo4 fa0)), ((fa0 0), .inl (cI, 3000, .inl f0))] sz)) (va_A [(h0, .inr (11, mo4 fa0)), ((fa0 0), .inl (cI, 3000, .inl f0))] sz)) 0 0 (va_A [(h0, .inr (11, mo4 fa0)), ((fa0 0), .inl (cI, 3000, .inl f0))] sz) := by
  refine Met.ofW (cc := cX11_four) (maxL := 3) (ret := none) (by decide) rfl ?_
  intro p e s m args below meth c s₁ B hml hv
  obtain ⟨rfl, hsz, hP, hK, hD0⟩ := hv
  have hx := B.exec
  have hb := B.bytes
  have hr := B.returns
  have hts := atoms_spec (ws := wq_X11_four_1) B.pre
  have hown : s.vm.findClass RX11 = some m.cls := findClass_of_methodNamed B.named
  have hlocks := B.notSynchronized
  subst hsz
  have hD := hD0.self (sz := s.heap.size)
  generalize hAe : va_A [(h0, .inr (11, mo4 fa0)), ((fa0 0), .inl (cI, 3000, .inl f0))] s.heap.size = A at hD ⊢
  have hA : ∀ q : Nat, s.heap.size ≤ q → A q := fun q h => by rw [← hAe]; exact Or.inr h
  have hS : va_S A s.heap s.heap [] := va_S.rf
  have hP : va_P (dC, dI) vwCl [(h0, .inr (11, mo4 fa0)), ((fa0 0), .inl (cI, 3000, .inl f0))] s.heap := hP
  obtain ⟨H, hH⟩ : ∃ H, H = s.heap := ⟨_, rfl⟩
  rw [← hH] at hP
  have hS : va_S A s.heap H [] := by rw [hH]; exact hS
  have hl := lv_entry ([.ref h0, .int x0]) (n := 3) (Nat.le_of_ble_eq_true rfl)
  rw [lg_entry_eq]
  generalize (lg_sl ([.ref h0, .int x0]) ++ List.replicate (3 - (lg_sl ([.ref h0, .int x0])).length) Slot.unset).toArray = ls at hl ⊢
  have hl : lv_has ls 3 [(0, .ref h0), (1, .int x0)] := hl
  refine pq_heap hH ?_
  refine lv_bipush (v := 24) hx hb dX11_four_0 (by decide) ?_
  refine lv_istore_n (lv' := [(2, .int 24), (0, .ref h0), (1, .int x0)]) hx hb dX11_four_2 rfl hl (by decide) rfl (fun ls hl => ?_)
  refine lv_iload_n hx hb dX11_four_3 rfl (lv_at hl 0 rfl) ?_
  refine lv_if_lt (tgt := 39) hx hb dX11_four_4 (by decide) (fun c_ => absurd c_ (by decide)) (fun _ => ?_)
  refine lv_aload_n hx hb dX11_four_7 rfl (lv_at hl 1 rfl) ?_
  refine va_get (D := (dC, dI)) (ci := 11) (v := .ref (fa0 0)) (C := RX11) (T := TX11) (N := 122) hx hb hts iq_X11_four_1_X11 hown hK hP 0 rfl rfl 0 (by decide) (hts (Cond.fieldLink RX11 3 "CodePressModel" "tape" "[I") (List.mem_of_getElem? (i := 1) rfl)) (fun _ h9 => h9) rfl dX11_four_8 ?_
  refine lv_aload_n hx hb dX11_four_11 rfl (lv_at hl 1 rfl) ?_
  refine va_get (D := (dC, dI)) (ci := 11) (v := .int 4) (C := RX11) (T := TX11) (N := 122) hx hb hts iq_X11_four_1_X11 hown hK hP 0 rfl rfl 1 (by decide) (hts (Cond.fieldLink RX11 7 "CodePressModel" "taped" "I") (List.mem_of_getElem? (i := 2) rfl)) (fun _ h9 => h9) rfl dX11_four_12 ?_
  refine lv_iload_n hx hb dX11_four_15 rfl (lv_at hl 2 rfl) ?_
  refine lv_iload_n hx hb dX11_four_16 rfl (lv_at hl 0 rfl) ?_
  refine lv_ishr hx hb dX11_four_17 ?_
  refine lv_sipush (v := 255) hx hb dX11_four_18 (by decide) ?_
  refine lv_iand hx hb dX11_four_21 ?_
  refine va_iast hx hb hK hP hD hS 1 1 rfl rfl (pq_in (by decide)) dX11_four_22 (fun H locs hP hD hS => ?_)
  have hR9 : pq_R (dC, dI) vwCl A [(h0, .inr (11, mo4 fa0)), ((fa0 0), .inl (cI, 3000, .inl (upd f0 4 ((x0 >>> (24 &&& 31)) &&& 255))))] H := ⟨hP, hD⟩
  have hP := hR9.1
  have hD := hR9.2
  refine lv_aload_n hx hb dX11_four_23 rfl (lv_at hl 1 rfl) ?_
  refine lv_dup hx hb dX11_four_24 rfl ?_
  refine va_get (D := (dC, dI)) (ci := 11) (v := .int 4) (C := RX11) (T := TX11) (N := 122) hx hb hts iq_X11_four_1_X11 hown hK hP 0 rfl rfl 1 (by decide) (hts (Cond.fieldLink RX11 7 "CodePressModel" "taped" "I") (List.mem_of_getElem? (i := 2) rfl)) (fun _ h9 => h9) rfl dX11_four_25 ?_
  refine lv_iconst (v := 1) hx hb dX11_four_28 (by decide) ?_
  refine lv_iadd hx hb dX11_four_29 ?_
  refine lv_topi (fun x1 ex1 => ?_)
  obtain rfl : x1 = 5 := ex1.trans (by decide)
  refine va_put (D := (dC, dI)) (ci := 11) (v := .int 5) (ty := .int) (C := RX11) (T := TX11) (N := 122) hx hb hts iq_X11_four_1_X11 tyX11 tyX11_ok nmX11 hown hK hP hD hS 0 rfl rfl 1 (by decide) (hts (Cond.fieldLink RX11 7 "CodePressModel" "taped" "I") (List.mem_of_getElem? (i := 2) rfl)) (fun _ h9 => h9) rfl (by decide +kernel) rfl rfl (Nat.le_of_ble_eq_true rfl) dX11_four_30 (fun H locs hP hD hS => ?_)
  have hR9 : pq_R (dC, dI) vwCl A [(h0, .inr (11, mo5 fa0)), ((fa0 0), .inl (cI, 3000, .inl (upd f0 4 ((x0 >>> (24 &&& 31)) &&& 255))))] H := ⟨hP, hD⟩
  have hP := hR9.1
  have hD := hR9.2
  refine lv_iinc (v := 16) (lv' := [(2, .int 16), (0, .ref h0), (1, .int x0)]) hx hb dX11_four_33 hl (k := 0) rfl (by decide) (by decide) rfl (fun ls hl => ?_)
  refine lv_goto (tgt := 3) hx hb dX11_four_36 (by decide) ?_
  refine lv_iload_n hx hb dX11_four_3 rfl (lv_at hl 0 rfl) ?_
  refine lv_if_lt (tgt := 39) hx hb dX11_four_4 (by decide) (fun c_ => absurd c_ (by decide)) (fun _ => ?_)
  refine lv_aload_n hx hb dX11_four_7 rfl (lv_at hl 1 rfl) ?_
  refine va_get (D := (dC, dI)) (ci := 11) (v := .ref (fa0 0)) (C := RX11) (T := TX11) (N := 122) hx hb hts iq_X11_four_1_X11 hown hK hP 0 rfl rfl 0 (by decide) (hts (Cond.fieldLink RX11 3 "CodePressModel" "tape" "[I") (List.mem_of_getElem? (i := 1) rfl)) (fun _ h9 => h9) rfl dX11_four_8 ?_
  refine lv_aload_n hx hb dX11_four_11 rfl (lv_at hl 1 rfl) ?_
  refine va_get (D := (dC, dI)) (ci := 11) (v := .int 5) (C := RX11) (T := TX11) (N := 122) hx hb hts iq_X11_four_1_X11 hown hK hP 0 rfl rfl 1 (by decide) (hts (Cond.fieldLink RX11 7 "CodePressModel" "taped" "I") (List.mem_of_getElem? (i := 2) rfl)) (fun _ h9 => h9) rfl dX11_four_12 ?_
  refine lv_iload_n hx hb dX11_four_15 rfl (lv_at hl 2 rfl) ?_
  refine lv_iload_n hx hb dX11_four_16 rfl (lv_at hl 0 rfl) ?_
  refine lv_ishr hx hb dX11_four_17 ?_
  refine lv_sipush (v := 255) hx hb dX11_four_18 (by decide) ?_
  refine lv_iand hx hb dX11_four_21 ?_
  refine va_iast hx hb hK hP hD hS 1 1 rfl rfl (pq_in (by decide)) dX11_four_22 (fun H locs hP hD hS => ?_)
  have hR9 : pq_R (dC, dI) vwCl A [(h0, .inr (11, mo5 fa0)), ((fa0 0), .inl (cI, 3000, .inl (upd (upd f0 4 ((x0 >>> (24 &&& 31)) &&& 255)) 5 ((x0 >>> (16 &&& 31)) &&& 255))))] H := ⟨hP, hD⟩
  have hP := hR9.1
  have hD := hR9.2
  refine lv_aload_n hx hb dX11_four_23 rfl (lv_at hl 1 rfl) ?_
  refine lv_dup hx hb dX11_four_24 rfl ?_
  refine va_get (D := (dC, dI)) (ci := 11) (v := .int 5) (C := RX11) (T := TX11) (N := 122) hx hb hts iq_X11_four_1_X11 hown hK hP 0 rfl rfl 1 (by decide) (hts (Cond.fieldLink RX11 7 "CodePressModel" "taped" "I") (List.mem_of_getElem? (i := 2) rfl)) (fun _ h9 => h9) rfl dX11_four_25 ?_
  refine lv_iconst (v := 1) hx hb dX11_four_28 (by decide) ?_
  refine lv_iadd hx hb dX11_four_29 ?_
  refine lv_topi (fun x2 ex2 => ?_)
  obtain rfl : x2 = 6 := ex2.trans (by decide)
  refine va_put (D := (dC, dI)) (ci := 11) (v := .int 6) (ty := .int) (C := RX11) (T := TX11) (N := 122) hx hb hts iq_X11_four_1_X11 tyX11 tyX11_ok nmX11 hown hK hP hD hS 0 rfl rfl 1 (by decide) (hts (Cond.fieldLink RX11 7 "CodePressModel" "taped" "I") (List.mem_of_getElem? (i := 2) rfl)) (fun _ h9 => h9) rfl (by decide +kernel) rfl rfl (Nat.le_of_ble_eq_true rfl) dX11_four_30 (fun H locs hP hD hS => ?_)
  have hR9 : pq_R (dC, dI) vwCl A [(h0, .inr (11, mo6 fa0)), ((fa0 0), .inl (cI, 3000, .inl (upd (upd f0 4 ((x0 >>> (24 &&& 31)) &&& 255)) 5 ((x0 >>> (16 &&& 31)) &&& 255))))] H := ⟨hP, hD⟩
  have hP := hR9.1
  have hD := hR9.2
  refine lv_iinc (v := 8) (lv' := [(2, .int 8), (0, .ref h0), (1, .int x0)]) hx hb dX11_four_33 hl (k := 0) rfl (by decide) (by decide) rfl (fun ls hl => ?_)
  refine lv_goto (tgt := 3) hx hb dX11_four_36 (by decide) ?_
  refine lv_iload_n hx hb dX11_four_3 rfl (lv_at hl 0 rfl) ?_
  refine lv_if_lt (tgt := 39) hx hb dX11_four_4 (by decide) (fun c_ => absurd c_ (by decide)) (fun _ => ?_)
  refine lv_aload_n hx hb dX11_four_7 rfl (lv_at hl 1 rfl) ?_
  refine va_get (D := (dC, dI)) (ci := 11) (v := .ref (fa0 0)) (C := RX11) (T := TX11) (N := 122) hx hb hts iq_X11_four_1_X11 hown hK hP 0 rfl rfl 0 (by decide) (hts (Cond.fieldLink RX11 3 "CodePressModel" "tape" "[I") (List.mem_of_getElem? (i := 1) rfl)) (fun _ h9 => h9) rfl dX11_four_8 ?_
  refine lv_aload_n hx hb dX11_four_11 rfl (lv_at hl 1 rfl) ?_
  refine va_get (D := (dC, dI)) (ci := 11) (v := .int 6) (C := RX11) (T := TX11) (N := 122) hx hb hts iq_X11_four_1_X11 hown hK hP 0 rfl rfl 1 (by decide) (hts (Cond.fieldLink RX11 7 "CodePressModel" "taped" "I") (List.mem_of_getElem? (i := 2) rfl)) (fun _ h9 => h9) rfl dX11_four_12 ?_
  refine lv_iload_n hx hb dX11_four_15 rfl (lv_at hl 2 rfl) ?_
  refine lv_iload_n hx hb dX11_four_16 rfl (lv_at hl 0 rfl) ?_
  refine lv_ishr hx hb dX11_four_17 ?_
  refine lv_sipush (v := 255) hx hb dX11_four_18 (by decide) ?_
  refine lv_iand hx hb dX11_four_21 ?_
  refine va_iast hx hb hK hP hD hS 1 1 rfl rfl (pq_in (by decide)) dX11_four_22 (fun H locs hP hD hS => ?_)
  have hR9 : pq_R (dC, dI) vwCl A [(h0, .inr (11, mo6 fa0)), ((fa0 0), .inl (cI, 3000, .inl (upd (upd (upd f0 4 ((x0 >>> (24 &&& 31)) &&& 255)) 5 ((x0 >>> (16 &&& 31)) &&& 255)) 6 ((x0 >>> (8 &&& 31)) &&& 255))))] H := ⟨hP, hD⟩
  have hP := hR9.1
  have hD := hR9.2
  refine lv_aload_n hx hb dX11_four_23 rfl (lv_at hl 1 rfl) ?_
  refine lv_dup hx hb dX11_four_24 rfl ?_
  refine va_get (D := (dC, dI)) (ci := 11) (v := .int 6) (C := RX11) (T := TX11) (N := 122) hx hb hts iq_X11_four_1_X11 hown hK hP 0 rfl rfl 1 (by decide) (hts (Cond.fieldLink RX11 7 "CodePressModel" "taped" "I") (List.mem_of_getElem? (i := 2) rfl)) (fun _ h9 => h9) rfl dX11_four_25 ?_
  refine lv_iconst (v := 1) hx hb dX11_four_28 (by decide) ?_
  refine lv_iadd hx hb dX11_four_29 ?_
  refine lv_topi (fun x3 ex3 => ?_)
  obtain rfl : x3 = 7 := ex3.trans (by decide)
  refine va_put (D := (dC, dI)) (ci := 11) (v := .int 7) (ty := .int) (C := RX11) (T := TX11) (N := 122) hx hb hts iq_X11_four_1_X11 tyX11 tyX11_ok nmX11 hown hK hP hD hS 0 rfl rfl 1 (by decide) (hts (Cond.fieldLink RX11 7 "CodePressModel" "taped" "I") (List.mem_of_getElem? (i := 2) rfl)) (fun _ h9 => h9) rfl (by decide +kernel) rfl rfl (Nat.le_of_ble_eq_true rfl) dX11_four_30 (fun H locs hP hD hS => ?_)
  have hR9 : pq_R (dC, dI) vwCl A [(h0, .inr (11, mo7 fa0)), ((fa0 0), .inl (cI, 3000, .inl (upd (upd (upd f0 4 ((x0 >>> (24 &&& 31)) &&& 255)) 5 ((x0 >>> (16 &&& 31)) &&& 255)) 6 ((x0 >>> (8 &&& 31)) &&& 255))))] H := ⟨hP, hD⟩
  have hP := hR9.1
  have hD := hR9.2
  refine lv_iinc (v := 0) (lv' := [(2, .int 0), (0, .ref h0), (1, .int x0)]) hx hb dX11_four_33 hl (k := 0) rfl (by decide) (by decide) rfl (fun ls hl => ?_)
  refine lv_goto (tgt := 3) hx hb dX11_four_36 (by decide) ?_
  refine lv_iload_n hx hb dX11_four_3 rfl (lv_at hl 0 rfl) ?_
  refine lv_if_lt (tgt := 39) hx hb dX11_four_4 (by decide) (fun c_ => absurd c_ (by decide)) (fun _ => ?_)
  refine lv_aload_n hx hb dX11_four_7 rfl (lv_at hl 1 rfl) ?_
  refine va_get (D := (dC, dI)) (ci := 11) (v := .ref (fa0 0)) (C := RX11) (T := TX11) (N := 122) hx hb hts iq_X11_four_1_X11 hown hK hP 0 rfl rfl 0 (by decide) (hts (Cond.fieldLink RX11 3 "CodePressModel" "tape" "[I") (List.mem_of_getElem? (i := 1) rfl)) (fun _ h9 => h9) rfl dX11_four_8 ?_
  refine lv_aload_n hx hb dX11_four_11 rfl (lv_at hl 1 rfl) ?_
  refine va_get (D := (dC, dI)) (ci := 11) (v := .int 7) (C := RX11) (T := TX11) (N := 122) hx hb hts iq_X11_four_1_X11 hown hK hP 0 rfl rfl 1 (by decide) (hts (Cond.fieldLink RX11 7 "CodePressModel" "taped" "I") (List.mem_of_getElem? (i := 2) rfl)) (fun _ h9 => h9) rfl dX11_four_12 ?_
  refine lv_iload_n hx hb dX11_four_15 rfl (lv_at hl 2 rfl) ?_
  refine lv_iload_n hx hb dX11_four_16 rfl (lv_at hl 0 rfl) ?_
  refine lv_ishr hx hb dX11_four_17 ?_
  refine lv_sipush (v := 255) hx hb dX11_four_18 (by decide) ?_
  refine lv_iand hx hb dX11_four_21 ?_
  refine va_iast hx hb hK hP hD hS 1 1 rfl rfl (pq_in (by decide)) dX11_four_22 (fun H locs hP hD hS => ?_)
  have hR9 : pq_R (dC, dI) vwCl A [(h0, .inr (11, mo7 fa0)), ((fa0 0), .inl (cI, 3000, .inl (upd (upd (upd (upd f0 4 ((x0 >>> (24 &&& 31)) &&& 255)) 5 ((x0 >>> (16 &&& 31)) &&& 255)) 6 ((x0 >>> (8 &&& 31)) &&& 255)) 7 ((x0 >>> (0 &&& 31)) &&& 255))))] H := ⟨hP, hD⟩
  have hP := hR9.1
  have hD := hR9.2
  refine lv_aload_n hx hb dX11_four_23 rfl (lv_at hl 1 rfl) ?_
  refine lv_dup hx hb dX11_four_24 rfl ?_
  refine va_get (D := (dC, dI)) (ci := 11) (v := .int 7) (C := RX11) (T := TX11) (N := 122) hx hb hts iq_X11_four_1_X11 hown hK hP 0 rfl rfl 1 (by decide) (hts (Cond.fieldLink RX11 7 "CodePressModel" "taped" "I") (List.mem_of_getElem? (i := 2) rfl)) (fun _ h9 => h9) rfl dX11_four_25 ?_
  refine lv_iconst (v := 1) hx hb dX11_four_28 (by decide) ?_
  refine lv_iadd hx hb dX11_four_29 ?_
  refine lv_topi (fun x4 ex4 => ?_)
  obtain rfl : x4 = 8 := ex4.trans (by decide)
  refine va_put (D := (dC, dI)) (ci := 11) (v := .int 8) (ty := .int) (C := RX11) (T := TX11) (N := 122) hx hb hts iq_X11_four_1_X11 tyX11 tyX11_ok nmX11 hown hK hP hD hS 0 rfl rfl 1 (by decide) (hts (Cond.fieldLink RX11 7 "CodePressModel" "taped" "I") (List.mem_of_getElem? (i := 2) rfl)) (fun _ h9 => h9) rfl (by decide +kernel) rfl rfl (Nat.le_of_ble_eq_true rfl) dX11_four_30 (fun H locs hP hD hS => ?_)
  have hR9 : pq_R (dC, dI) vwCl A [(h0, .inr (11, mo8 fa0)), ((fa0 0), .inl (cI, 3000, .inl (upd (upd (upd (upd f0 4 ((x0 >>> (24 &&& 31)) &&& 255)) 5 ((x0 >>> (16 &&& 31)) &&& 255)) 6 ((x0 >>> (8 &&& 31)) &&& 255)) 7 ((x0 >>> (0 &&& 31)) &&& 255))))] H := ⟨hP, hD⟩
  have hP := hR9.1
  have hD := hR9.2
  refine lv_iinc (v := (-8)) (lv' := [(2, .int (-8)), (0, .ref h0), (1, .int x0)]) hx hb dX11_four_33 hl (k := 0) rfl (by decide) (by decide) rfl (fun ls hl => ?_)
  refine lv_goto (tgt := 3) hx hb dX11_four_36 (by decide) ?_
  refine lv_iload_n hx hb dX11_four_3 rfl (lv_at hl 0 rfl) ?_
  refine lv_if_lt (tgt := 39) hx hb dX11_four_4 (by decide) (fun _ => ?_) (fun c_ => absurd (by decide) c_)
  have hP9 := pq_P.pick (wc := [(h0, .inr (11, mo8 fa0)), ((fa0 0), .inl (cI, 3000, .inl (upd (upd (upd (upd f0 4 ((x0 >>> (24 &&& 31)) &&& 255)) 5 ((x0 >>> (16 &&& 31)) &&& 255)) 6 ((x0 >>> (8 &&& 31)) &&& 255)) 7 ((x0 >>> (0 &&& 31)) &&& 255))))]) hP [0, 1] rfl
  have hD9 := hD.sub (ws' := [(h0, .inr (11, mo8 fa0)), ((fa0 0), .inl (cI, 3000, .inl (upd (upd (upd (upd f0 4 ((x0 >>> (24 &&& 31)) &&& 255)) 5 ((x0 >>> (16 &&& 31)) &&& 255)) 6 ((x0 >>> (8 &&& 31)) &&& 255)) 7 ((x0 >>> (0 &&& 31)) &&& 255))))]) [0, 1] (by decide) rfl
  refine W.widen (k := 0) (n := 0) (by decide +kernel) (by decide +kernel) ?_
  exact W.vret hx hb hr (fun t ht hW => ⟨⟨sq_u [] [], rfl, trivial, pq_B.of ht hP9 hD9⟩, hS.F ht⟩) hS.2.2 dX11_four_39
def wq_X11_four_2_r1 : List Cond := [Cond.fieldLink RX11 3 "CodePressModel" "tape" "[I", Cond.fieldLink RX11 7 "CodePressModel" "taped" "I"]
def wq_X11_four_2 : List Cond := Cond.code yX11_four cX11_four 3 none :: (wq_X11_four_2_r1 ++ wsX110)
theorem iq_X11_four_2_X11 : ∀ w ∈ wsX110, w ∈ wq_X11_four_2 := fun _ h => List.mem_cons_of_mem _ (List.mem_append_right _ h)
set_option maxHeartbeats 4000000 in
set_option maxRecDepth 100000 in
theorem cq_X11_four_2 (l : Launch) (dC : Nat → ClassId) (dI : Nat → Nat → Nat) (cB cI cJ cZ : ClassId) (h0 : Nat) (fa0 : Nat → Nat) (x0 : Int32) (f0 : Nat → Int32) (sz : Nat) : Met l yX11_four wq_X11_four_2 ({ frames := 0, cells := 0, slots := 0, locals := 0 }) (va_Pc [.ref h0, .int x0] (pq_W (dC, dI) vwCl (tyQ cB cI cJ cZ) [(h0, .inr (11, mo8 fa0)), ((fa0 0), .inl (cI, 3000, .inl f0))] sz)) (va_Qv (fun (_ : SQ) => True) (fun u => pq_B (dC, dI) vwCl [(h0, .inr (11, mo12 fa0)), ((fa0 0), .inl (cI, 3000, .inl (upd (upd (upd (upd f0 8 ((x0 >>> (24 &&& 31)) &&& 255)) 9 ((x0 >>> (16 &&& 31)) &&& 255)) 10 ((x0 >>> (8 &&& 31)) &&& 255)) 11 ((x0 >>> (0 &&& 31)) &&& 255))))] (va_A [(h0, .inr (11, mo8 fa0)), ((fa0 0), .inl (cI, 3000, .inl f0))] sz)) (va_A [(h0, .inr (11, mo8 fa0)), ((fa0 0), .inl (cI, 3000, .inl f0))] sz)) 0 0 (va_A [(h0, .inr (11, mo8 fa0)), ((fa0 0), .inl (cI, 3000, .inl f0))] sz) := by
  refine Met.ofW (cc := cX11_four) (maxL := 3) (ret := none) (by decide) rfl ?_
  intro p e s m args below meth c s₁ B hml hv
  obtain ⟨rfl, hsz, hP, hK, hD0⟩ := hv
  have hx := B.exec
  have hb := B.bytes
  have hr := B.returns
  have hts := atoms_spec (ws := wq_X11_four_2) B.pre
  have hown : s.vm.findClass RX11 = some m.cls := findClass_of_methodNamed B.named
  have hlocks := B.notSynchronized
  subst hsz
  have hD := hD0.self (sz := s.heap.size)
  generalize hAe : va_A [(h0, .inr (11, mo8 fa0)), ((fa0 0), .inl (cI, 3000, .inl f0))] s.heap.size = A at hD ⊢
  have hA : ∀ q : Nat, s.heap.size ≤ q → A q := fun q h => by rw [← hAe]; exact Or.inr h
  have hS : va_S A s.heap s.heap [] := va_S.rf
  have hP : va_P (dC, dI) vwCl [(h0, .inr (11, mo8 fa0)), ((fa0 0), .inl (cI, 3000, .inl f0))] s.heap := hP
  obtain ⟨H, hH⟩ : ∃ H, H = s.heap := ⟨_, rfl⟩
  rw [← hH] at hP
  have hS : va_S A s.heap H [] := by rw [hH]; exact hS
  have hl := lv_entry ([.ref h0, .int x0]) (n := 3) (Nat.le_of_ble_eq_true rfl)
  rw [lg_entry_eq]
  generalize (lg_sl ([.ref h0, .int x0]) ++ List.replicate (3 - (lg_sl ([.ref h0, .int x0])).length) Slot.unset).toArray = ls at hl ⊢
  have hl : lv_has ls 3 [(0, .ref h0), (1, .int x0)] := hl
  refine pq_heap hH ?_
  refine lv_bipush (v := 24) hx hb dX11_four_0 (by decide) ?_
  refine lv_istore_n (lv' := [(2, .int 24), (0, .ref h0), (1, .int x0)]) hx hb dX11_four_2 rfl hl (by decide) rfl (fun ls hl => ?_)
  refine lv_iload_n hx hb dX11_four_3 rfl (lv_at hl 0 rfl) ?_
  refine lv_if_lt (tgt := 39) hx hb dX11_four_4 (by decide) (fun c_ => absurd c_ (by decide)) (fun _ => ?_)
  refine lv_aload_n hx hb dX11_four_7 rfl (lv_at hl 1 rfl) ?_
  refine va_get (D := (dC, dI)) (ci := 11) (v := .ref (fa0 0)) (C := RX11) (T := TX11) (N := 122) hx hb hts iq_X11_four_2_X11 hown hK hP 0 rfl rfl 0 (by decide) (hts (Cond.fieldLink RX11 3 "CodePressModel" "tape" "[I") (List.mem_of_getElem? (i := 1) rfl)) (fun _ h9 => h9) rfl dX11_four_8 ?_
  refine lv_aload_n hx hb dX11_four_11 rfl (lv_at hl 1 rfl) ?_
  refine va_get (D := (dC, dI)) (ci := 11) (v := .int 8) (C := RX11) (T := TX11) (N := 122) hx hb hts iq_X11_four_2_X11 hown hK hP 0 rfl rfl 1 (by decide) (hts (Cond.fieldLink RX11 7 "CodePressModel" "taped" "I") (List.mem_of_getElem? (i := 2) rfl)) (fun _ h9 => h9) rfl dX11_four_12 ?_
  refine lv_iload_n hx hb dX11_four_15 rfl (lv_at hl 2 rfl) ?_
  refine lv_iload_n hx hb dX11_four_16 rfl (lv_at hl 0 rfl) ?_
  refine lv_ishr hx hb dX11_four_17 ?_
  refine lv_sipush (v := 255) hx hb dX11_four_18 (by decide) ?_
  refine lv_iand hx hb dX11_four_21 ?_
  refine va_iast hx hb hK hP hD hS 1 1 rfl rfl (pq_in (by decide)) dX11_four_22 (fun H locs hP hD hS => ?_)
  have hR9 : pq_R (dC, dI) vwCl A [(h0, .inr (11, mo8 fa0)), ((fa0 0), .inl (cI, 3000, .inl (upd f0 8 ((x0 >>> (24 &&& 31)) &&& 255))))] H := ⟨hP, hD⟩
  have hP := hR9.1
  have hD := hR9.2
  refine lv_aload_n hx hb dX11_four_23 rfl (lv_at hl 1 rfl) ?_
  refine lv_dup hx hb dX11_four_24 rfl ?_
  refine va_get (D := (dC, dI)) (ci := 11) (v := .int 8) (C := RX11) (T := TX11) (N := 122) hx hb hts iq_X11_four_2_X11 hown hK hP 0 rfl rfl 1 (by decide) (hts (Cond.fieldLink RX11 7 "CodePressModel" "taped" "I") (List.mem_of_getElem? (i := 2) rfl)) (fun _ h9 => h9) rfl dX11_four_25 ?_
  refine lv_iconst (v := 1) hx hb dX11_four_28 (by decide) ?_
  refine lv_iadd hx hb dX11_four_29 ?_
  refine lv_topi (fun x1 ex1 => ?_)
  obtain rfl : x1 = 9 := ex1.trans (by decide)
  refine va_put (D := (dC, dI)) (ci := 11) (v := .int 9) (ty := .int) (C := RX11) (T := TX11) (N := 122) hx hb hts iq_X11_four_2_X11 tyX11 tyX11_ok nmX11 hown hK hP hD hS 0 rfl rfl 1 (by decide) (hts (Cond.fieldLink RX11 7 "CodePressModel" "taped" "I") (List.mem_of_getElem? (i := 2) rfl)) (fun _ h9 => h9) rfl (by decide +kernel) rfl rfl (Nat.le_of_ble_eq_true rfl) dX11_four_30 (fun H locs hP hD hS => ?_)
  have hR9 : pq_R (dC, dI) vwCl A [(h0, .inr (11, mo9 fa0)), ((fa0 0), .inl (cI, 3000, .inl (upd f0 8 ((x0 >>> (24 &&& 31)) &&& 255))))] H := ⟨hP, hD⟩
  have hP := hR9.1
  have hD := hR9.2
  refine lv_iinc (v := 16) (lv' := [(2, .int 16), (0, .ref h0), (1, .int x0)]) hx hb dX11_four_33 hl (k := 0) rfl (by decide) (by decide) rfl (fun ls hl => ?_)
  refine lv_goto (tgt := 3) hx hb dX11_four_36 (by decide) ?_
  refine lv_iload_n hx hb dX11_four_3 rfl (lv_at hl 0 rfl) ?_
  refine lv_if_lt (tgt := 39) hx hb dX11_four_4 (by decide) (fun c_ => absurd c_ (by decide)) (fun _ => ?_)
  refine lv_aload_n hx hb dX11_four_7 rfl (lv_at hl 1 rfl) ?_
  refine va_get (D := (dC, dI)) (ci := 11) (v := .ref (fa0 0)) (C := RX11) (T := TX11) (N := 122) hx hb hts iq_X11_four_2_X11 hown hK hP 0 rfl rfl 0 (by decide) (hts (Cond.fieldLink RX11 3 "CodePressModel" "tape" "[I") (List.mem_of_getElem? (i := 1) rfl)) (fun _ h9 => h9) rfl dX11_four_8 ?_
  refine lv_aload_n hx hb dX11_four_11 rfl (lv_at hl 1 rfl) ?_
  refine va_get (D := (dC, dI)) (ci := 11) (v := .int 9) (C := RX11) (T := TX11) (N := 122) hx hb hts iq_X11_four_2_X11 hown hK hP 0 rfl rfl 1 (by decide) (hts (Cond.fieldLink RX11 7 "CodePressModel" "taped" "I") (List.mem_of_getElem? (i := 2) rfl)) (fun _ h9 => h9) rfl dX11_four_12 ?_
  refine lv_iload_n hx hb dX11_four_15 rfl (lv_at hl 2 rfl) ?_
  refine lv_iload_n hx hb dX11_four_16 rfl (lv_at hl 0 rfl) ?_
  refine lv_ishr hx hb dX11_four_17 ?_
  refine lv_sipush (v := 255) hx hb dX11_four_18 (by decide) ?_
  refine lv_iand hx hb dX11_four_21 ?_
  refine va_iast hx hb hK hP hD hS 1 1 rfl rfl (pq_in (by decide)) dX11_four_22 (fun H locs hP hD hS => ?_)
  have hR9 : pq_R (dC, dI) vwCl A [(h0, .inr (11, mo9 fa0)), ((fa0 0), .inl (cI, 3000, .inl (upd (upd f0 8 ((x0 >>> (24 &&& 31)) &&& 255)) 9 ((x0 >>> (16 &&& 31)) &&& 255))))] H := ⟨hP, hD⟩
  have hP := hR9.1
  have hD := hR9.2
  refine lv_aload_n hx hb dX11_four_23 rfl (lv_at hl 1 rfl) ?_
  refine lv_dup hx hb dX11_four_24 rfl ?_
  refine va_get (D := (dC, dI)) (ci := 11) (v := .int 9) (C := RX11) (T := TX11) (N := 122) hx hb hts iq_X11_four_2_X11 hown hK hP 0 rfl rfl 1 (by decide) (hts (Cond.fieldLink RX11 7 "CodePressModel" "taped" "I") (List.mem_of_getElem? (i := 2) rfl)) (fun _ h9 => h9) rfl dX11_four_25 ?_
  refine lv_iconst (v := 1) hx hb dX11_four_28 (by decide) ?_
  refine lv_iadd hx hb dX11_four_29 ?_
  refine lv_topi (fun x2 ex2 => ?_)
  obtain rfl : x2 = 10 := ex2.trans (by decide)
  refine va_put (D := (dC, dI)) (ci := 11) (v := .int 10) (ty := .int) (C := RX11) (T := TX11) (N := 122) hx hb hts iq_X11_four_2_X11 tyX11 tyX11_ok nmX11 hown hK hP hD hS 0 rfl rfl 1 (by decide) (hts (Cond.fieldLink RX11 7 "CodePressModel" "taped" "I") (List.mem_of_getElem? (i := 2) rfl)) (fun _ h9 => h9) rfl (by decide +kernel) rfl rfl (Nat.le_of_ble_eq_true rfl) dX11_four_30 (fun H locs hP hD hS => ?_)
  have hR9 : pq_R (dC, dI) vwCl A [(h0, .inr (11, mo10 fa0)), ((fa0 0), .inl (cI, 3000, .inl (upd (upd f0 8 ((x0 >>> (24 &&& 31)) &&& 255)) 9 ((x0 >>> (16 &&& 31)) &&& 255))))] H := ⟨hP, hD⟩
  have hP := hR9.1
  have hD := hR9.2
  refine lv_iinc (v := 8) (lv' := [(2, .int 8), (0, .ref h0), (1, .int x0)]) hx hb dX11_four_33 hl (k := 0) rfl (by decide) (by decide) rfl (fun ls hl => ?_)
  refine lv_goto (tgt := 3) hx hb dX11_four_36 (by decide) ?_
  refine lv_iload_n hx hb dX11_four_3 rfl (lv_at hl 0 rfl) ?_
  refine lv_if_lt (tgt := 39) hx hb dX11_four_4 (by decide) (fun c_ => absurd c_ (by decide)) (fun _ => ?_)
  refine lv_aload_n hx hb dX11_four_7 rfl (lv_at hl 1 rfl) ?_
  refine va_get (D := (dC, dI)) (ci := 11) (v := .ref (fa0 0)) (C := RX11) (T := TX11) (N := 122) hx hb hts iq_X11_four_2_X11 hown hK hP 0 rfl rfl 0 (by decide) (hts (Cond.fieldLink RX11 3 "CodePressModel" "tape" "[I") (List.mem_of_getElem? (i := 1) rfl)) (fun _ h9 => h9) rfl dX11_four_8 ?_
  refine lv_aload_n hx hb dX11_four_11 rfl (lv_at hl 1 rfl) ?_
  refine va_get (D := (dC, dI)) (ci := 11) (v := .int 10) (C := RX11) (T := TX11) (N := 122) hx hb hts iq_X11_four_2_X11 hown hK hP 0 rfl rfl 1 (by decide) (hts (Cond.fieldLink RX11 7 "CodePressModel" "taped" "I") (List.mem_of_getElem? (i := 2) rfl)) (fun _ h9 => h9) rfl dX11_four_12 ?_
  refine lv_iload_n hx hb dX11_four_15 rfl (lv_at hl 2 rfl) ?_
  refine lv_iload_n hx hb dX11_four_16 rfl (lv_at hl 0 rfl) ?_
  refine lv_ishr hx hb dX11_four_17 ?_
  refine lv_sipush (v := 255) hx hb dX11_four_18 (by decide) ?_
  refine lv_iand hx hb dX11_four_21 ?_
  refine va_iast hx hb hK hP hD hS 1 1 rfl rfl (pq_in (by decide)) dX11_four_22 (fun H locs hP hD hS => ?_)
  have hR9 : pq_R (dC, dI) vwCl A [(h0, .inr (11, mo10 fa0)), ((fa0 0), .inl (cI, 3000, .inl (upd (upd (upd f0 8 ((x0 >>> (24 &&& 31)) &&& 255)) 9 ((x0 >>> (16 &&& 31)) &&& 255)) 10 ((x0 >>> (8 &&& 31)) &&& 255))))] H := ⟨hP, hD⟩
  have hP := hR9.1
  have hD := hR9.2
  refine lv_aload_n hx hb dX11_four_23 rfl (lv_at hl 1 rfl) ?_
  refine lv_dup hx hb dX11_four_24 rfl ?_
  refine va_get (D := (dC, dI)) (ci := 11) (v := .int 10) (C := RX11) (T := TX11) (N := 122) hx hb hts iq_X11_four_2_X11 hown hK hP 0 rfl rfl 1 (by decide) (hts (Cond.fieldLink RX11 7 "CodePressModel" "taped" "I") (List.mem_of_getElem? (i := 2) rfl)) (fun _ h9 => h9) rfl dX11_four_25 ?_
  refine lv_iconst (v := 1) hx hb dX11_four_28 (by decide) ?_
  refine lv_iadd hx hb dX11_four_29 ?_
  refine lv_topi (fun x3 ex3 => ?_)
  obtain rfl : x3 = 11 := ex3.trans (by decide)
  refine va_put (D := (dC, dI)) (ci := 11) (v := .int 11) (ty := .int) (C := RX11) (T := TX11) (N := 122) hx hb hts iq_X11_four_2_X11 tyX11 tyX11_ok nmX11 hown hK hP hD hS 0 rfl rfl 1 (by decide) (hts (Cond.fieldLink RX11 7 "CodePressModel" "taped" "I") (List.mem_of_getElem? (i := 2) rfl)) (fun _ h9 => h9) rfl (by decide +kernel) rfl rfl (Nat.le_of_ble_eq_true rfl) dX11_four_30 (fun H locs hP hD hS => ?_)
  have hR9 : pq_R (dC, dI) vwCl A [(h0, .inr (11, mo11 fa0)), ((fa0 0), .inl (cI, 3000, .inl (upd (upd (upd f0 8 ((x0 >>> (24 &&& 31)) &&& 255)) 9 ((x0 >>> (16 &&& 31)) &&& 255)) 10 ((x0 >>> (8 &&& 31)) &&& 255))))] H := ⟨hP, hD⟩
  have hP := hR9.1
  have hD := hR9.2
  refine lv_iinc (v := 0) (lv' := [(2, .int 0), (0, .ref h0), (1, .int x0)]) hx hb dX11_four_33 hl (k := 0) rfl (by decide) (by decide) rfl (fun ls hl => ?_)
  refine lv_goto (tgt := 3) hx hb dX11_four_36 (by decide) ?_
  refine lv_iload_n hx hb dX11_four_3 rfl (lv_at hl 0 rfl) ?_
  refine lv_if_lt (tgt := 39) hx hb dX11_four_4 (by decide) (fun c_ => absurd c_ (by decide)) (fun _ => ?_)
  refine lv_aload_n hx hb dX11_four_7 rfl (lv_at hl 1 rfl) ?_
  refine va_get (D := (dC, dI)) (ci := 11) (v := .ref (fa0 0)) (C := RX11) (T := TX11) (N := 122) hx hb hts iq_X11_four_2_X11 hown hK hP 0 rfl rfl 0 (by decide) (hts (Cond.fieldLink RX11 3 "CodePressModel" "tape" "[I") (List.mem_of_getElem? (i := 1) rfl)) (fun _ h9 => h9) rfl dX11_four_8 ?_
  refine lv_aload_n hx hb dX11_four_11 rfl (lv_at hl 1 rfl) ?_
  refine va_get (D := (dC, dI)) (ci := 11) (v := .int 11) (C := RX11) (T := TX11) (N := 122) hx hb hts iq_X11_four_2_X11 hown hK hP 0 rfl rfl 1 (by decide) (hts (Cond.fieldLink RX11 7 "CodePressModel" "taped" "I") (List.mem_of_getElem? (i := 2) rfl)) (fun _ h9 => h9) rfl dX11_four_12 ?_
  refine lv_iload_n hx hb dX11_four_15 rfl (lv_at hl 2 rfl) ?_
  refine lv_iload_n hx hb dX11_four_16 rfl (lv_at hl 0 rfl) ?_
  refine lv_ishr hx hb dX11_four_17 ?_
  refine lv_sipush (v := 255) hx hb dX11_four_18 (by decide) ?_
  refine lv_iand hx hb dX11_four_21 ?_
  refine va_iast hx hb hK hP hD hS 1 1 rfl rfl (pq_in (by decide)) dX11_four_22 (fun H locs hP hD hS => ?_)
  have hR9 : pq_R (dC, dI) vwCl A [(h0, .inr (11, mo11 fa0)), ((fa0 0), .inl (cI, 3000, .inl (upd (upd (upd (upd f0 8 ((x0 >>> (24 &&& 31)) &&& 255)) 9 ((x0 >>> (16 &&& 31)) &&& 255)) 10 ((x0 >>> (8 &&& 31)) &&& 255)) 11 ((x0 >>> (0 &&& 31)) &&& 255))))] H := ⟨hP, hD⟩
  have hP := hR9.1
  have hD := hR9.2
  refine lv_aload_n hx hb dX11_four_23 rfl (lv_at hl 1 rfl) ?_
  refine lv_dup hx hb dX11_four_24 rfl ?_
  refine va_get (D := (dC, dI)) (ci := 11) (v := .int 11) (C := RX11) (T := TX11) (N := 122) hx hb hts iq_X11_four_2_X11 hown hK hP 0 rfl rfl 1 (by decide) (hts (Cond.fieldLink RX11 7 "CodePressModel" "taped" "I") (List.mem_of_getElem? (i := 2) rfl)) (fun _ h9 => h9) rfl dX11_four_25 ?_
  refine lv_iconst (v := 1) hx hb dX11_four_28 (by decide) ?_
  refine lv_iadd hx hb dX11_four_29 ?_
  refine lv_topi (fun x4 ex4 => ?_)
  obtain rfl : x4 = 12 := ex4.trans (by decide)
  refine va_put (D := (dC, dI)) (ci := 11) (v := .int 12) (ty := .int) (C := RX11) (T := TX11) (N := 122) hx hb hts iq_X11_four_2_X11 tyX11 tyX11_ok nmX11 hown hK hP hD hS 0 rfl rfl 1 (by decide) (hts (Cond.fieldLink RX11 7 "CodePressModel" "taped" "I") (List.mem_of_getElem? (i := 2) rfl)) (fun _ h9 => h9) rfl (by decide +kernel) rfl rfl (Nat.le_of_ble_eq_true rfl) dX11_four_30 (fun H locs hP hD hS => ?_)
  have hR9 : pq_R (dC, dI) vwCl A [(h0, .inr (11, mo12 fa0)), ((fa0 0), .inl (cI, 3000, .inl (upd (upd (upd (upd f0 8 ((x0 >>> (24 &&& 31)) &&& 255)) 9 ((x0 >>> (16 &&& 31)) &&& 255)) 10 ((x0 >>> (8 &&& 31)) &&& 255)) 11 ((x0 >>> (0 &&& 31)) &&& 255))))] H := ⟨hP, hD⟩
  have hP := hR9.1
  have hD := hR9.2
  refine lv_iinc (v := (-8)) (lv' := [(2, .int (-8)), (0, .ref h0), (1, .int x0)]) hx hb dX11_four_33 hl (k := 0) rfl (by decide) (by decide) rfl (fun ls hl => ?_)
  refine lv_goto (tgt := 3) hx hb dX11_four_36 (by decide) ?_
  refine lv_iload_n hx hb dX11_four_3 rfl (lv_at hl 0 rfl) ?_
  refine lv_if_lt (tgt := 39) hx hb dX11_four_4 (by decide) (fun _ => ?_) (fun c_ => absurd (by decide) c_)
  have hP9 := pq_P.pick (wc := [(h0, .inr (11, mo12 fa0)), ((fa0 0), .inl (cI, 3000, .inl (upd (upd (upd (upd f0 8 ((x0 >>> (24 &&& 31)) &&& 255)) 9 ((x0 >>> (16 &&& 31)) &&& 255)) 10 ((x0 >>> (8 &&& 31)) &&& 255)) 11 ((x0 >>> (0 &&& 31)) &&& 255))))]) hP [0, 1] rfl
  have hD9 := hD.sub (ws' := [(h0, .inr (11, mo12 fa0)), ((fa0 0), .inl (cI, 3000, .inl (upd (upd (upd (upd f0 8 ((x0 >>> (24 &&& 31)) &&& 255)) 9 ((x0 >>> (16 &&& 31)) &&& 255)) 10 ((x0 >>> (8 &&& 31)) &&& 255)) 11 ((x0 >>> (0 &&& 31)) &&& 255))))]) [0, 1] (by decide) rfl
  refine W.widen (k := 0) (n := 0) (by decide +kernel) (by decide +kernel) ?_
  exact W.vret hx hb hr (fun t ht hW => ⟨⟨sq_u [] [], rfl, trivial, pq_B.of ht hP9 hD9⟩, hS.F ht⟩) hS.2.2 dX11_four_39
def wq_X11_four_3_r1 : List Cond := [Cond.fieldLink RX11 3 "CodePressModel" "tape" "[I", Cond.fieldLink RX11 7 "CodePressModel" "taped" "I"]
def wq_X11_four_3 : List Cond := Cond.code yX11_four cX11_four 3 none :: (wq_X11_four_3_r1 ++ wsX110)
theorem iq_X11_four_3_X11 : ∀ w ∈ wsX110, w ∈ wq_X11_four_3 := fun _ h => List.mem_cons_of_mem _ (List.mem_append_right _ h)
set_option maxHeartbeats 4000000 in
set_option maxRecDepth 100000 in
theorem cq_X11_four_3 (l : Launch) (dC : Nat → ClassId) (dI : Nat → Nat → Nat) (cB cI cJ cZ : ClassId) (h0 : Nat) (fa0 : Nat → Nat) (x0 : Int32) (f0 : Nat → Int32) (sz : Nat) : Met l yX11_four wq_X11_four_3 ({ frames := 0, cells := 0, slots := 0, locals := 0 }) (va_Pc [.ref h0, .int x0] (pq_W (dC, dI) vwCl (tyQ cB cI cJ cZ) [(h0, .inr (11, mo12 fa0)), ((fa0 0), .inl (cI, 3000, .inl f0))] sz)) (va_Qv (fun (_ : SQ) => True) (fun u => pq_B (dC, dI) vwCl [(h0, .inr (11, mo16 fa0)), ((fa0 0), .inl (cI, 3000, .inl (upd (upd (upd (upd f0 12 ((x0 >>> (24 &&& 31)) &&& 255)) 13 ((x0 >>> (16 &&& 31)) &&& 255)) 14 ((x0 >>> (8 &&& 31)) &&& 255)) 15 ((x0 >>> (0 &&& 31)) &&& 255))))] (va_A [(h0, .inr (11, mo12 fa0)), ((fa0 0), .inl (cI, 3000, .inl f0))] sz)) (va_A [(h0, .inr (11, mo12 fa0)), ((fa0 0), .inl (cI, 3000, .inl f0))] sz)) 0 0 (va_A [(h0, .inr (11, mo12 fa0)), ((fa0 0), .inl (cI, 3000, .inl f0))] sz) := by
  refine Met.ofW (cc := cX11_four) (maxL := 3) (ret := none) (by decide) rfl ?_
  intro p e s m args below meth c s₁ B hml hv
  obtain ⟨rfl, hsz, hP, hK, hD0⟩ := hv
  have hx := B.exec
  have hb := B.bytes
  have hr := B.returns
  have hts := atoms_spec (ws := wq_X11_four_3) B.pre
  have hown : s.vm.findClass RX11 = some m.cls := findClass_of_methodNamed B.named
  have hlocks := B.notSynchronized
  subst hsz
  have hD := hD0.self (sz := s.heap.size)
  generalize hAe : va_A [(h0, .inr (11, mo12 fa0)), ((fa0 0), .inl (cI, 3000, .inl f0))] s.heap.size = A at hD ⊢
  have hA : ∀ q : Nat, s.heap.size ≤ q → A q := fun q h => by rw [← hAe]; exact Or.inr h
  have hS : va_S A s.heap s.heap [] := va_S.rf
  have hP : va_P (dC, dI) vwCl [(h0, .inr (11, mo12 fa0)), ((fa0 0), .inl (cI, 3000, .inl f0))] s.heap := hP
  obtain ⟨H, hH⟩ : ∃ H, H = s.heap := ⟨_, rfl⟩
  rw [← hH] at hP
  have hS : va_S A s.heap H [] := by rw [hH]; exact hS
  have hl := lv_entry ([.ref h0, .int x0]) (n := 3) (Nat.le_of_ble_eq_true rfl)
  rw [lg_entry_eq]
  generalize (lg_sl ([.ref h0, .int x0]) ++ List.replicate (3 - (lg_sl ([.ref h0, .int x0])).length) Slot.unset).toArray = ls at hl ⊢
  have hl : lv_has ls 3 [(0, .ref h0), (1, .int x0)] := hl
  refine pq_heap hH ?_
  refine lv_bipush (v := 24) hx hb dX11_four_0 (by decide) ?_
  refine lv_istore_n (lv' := [(2, .int 24), (0, .ref h0), (1, .int x0)]) hx hb dX11_four_2 rfl hl (by decide) rfl (fun ls hl => ?_)
  refine lv_iload_n hx hb dX11_four_3 rfl (lv_at hl 0 rfl) ?_
  refine lv_if_lt (tgt := 39) hx hb dX11_four_4 (by decide) (fun c_ => absurd c_ (by decide)) (fun _ => ?_)
  refine lv_aload_n hx hb dX11_four_7 rfl (lv_at hl 1 rfl) ?_
  refine va_get (D := (dC, dI)) (ci := 11) (v := .ref (fa0 0)) (C := RX11) (T := TX11) (N := 122) hx hb hts iq_X11_four_3_X11 hown hK hP 0 rfl rfl 0 (by decide) (hts (Cond.fieldLink RX11 3 "CodePressModel" "tape" "[I") (List.mem_of_getElem? (i := 1) rfl)) (fun _ h9 => h9) rfl dX11_four_8 ?_
  refine lv_aload_n hx hb dX11_four_11 rfl (lv_at hl 1 rfl) ?_
  refine va_get (D := (dC, dI)) (ci := 11) (v := .int 12) (C := RX11) (T := TX11) (N := 122) hx hb hts iq_X11_four_3_X11 hown hK hP 0 rfl rfl 1 (by decide) (hts (Cond.fieldLink RX11 7 "CodePressModel" "taped" "I") (List.mem_of_getElem? (i := 2) rfl)) (fun _ h9 => h9) rfl dX11_four_12 ?_
  refine lv_iload_n hx hb dX11_four_15 rfl (lv_at hl 2 rfl) ?_
  refine lv_iload_n hx hb dX11_four_16 rfl (lv_at hl 0 rfl) ?_
  refine lv_ishr hx hb dX11_four_17 ?_
  refine lv_sipush (v := 255) hx hb dX11_four_18 (by decide) ?_
  refine lv_iand hx hb dX11_four_21 ?_
  refine va_iast hx hb hK hP hD hS 1 1 rfl rfl (pq_in (by decide)) dX11_four_22 (fun H locs hP hD hS => ?_)
  have hR9 : pq_R (dC, dI) vwCl A [(h0, .inr (11, mo12 fa0)), ((fa0 0), .inl (cI, 3000, .inl (upd f0 12 ((x0 >>> (24 &&& 31)) &&& 255))))] H := ⟨hP, hD⟩
  have hP := hR9.1
  have hD := hR9.2
  refine lv_aload_n hx hb dX11_four_23 rfl (lv_at hl 1 rfl) ?_
  refine lv_dup hx hb dX11_four_24 rfl ?_
  refine va_get (D := (dC, dI)) (ci := 11) (v := .int 12) (C := RX11) (T := TX11) (N := 122) hx hb hts iq_X11_four_3_X11 hown hK hP 0 rfl rfl 1 (by decide) (hts (Cond.fieldLink RX11 7 "CodePressModel" "taped" "I") (List.mem_of_getElem? (i := 2) rfl)) (fun _ h9 => h9) rfl dX11_four_25 ?_
  refine lv_iconst (v := 1) hx hb dX11_four_28 (by decide) ?_
  refine lv_iadd hx hb dX11_four_29 ?_
  refine lv_topi (fun x1 ex1 => ?_)
  obtain rfl : x1 = 13 := ex1.trans (by decide)
  refine va_put (D := (dC, dI)) (ci := 11) (v := .int 13) (ty := .int) (C := RX11) (T := TX11) (N := 122) hx hb hts iq_X11_four_3_X11 tyX11 tyX11_ok nmX11 hown hK hP hD hS 0 rfl rfl 1 (by decide) (hts (Cond.fieldLink RX11 7 "CodePressModel" "taped" "I") (List.mem_of_getElem? (i := 2) rfl)) (fun _ h9 => h9) rfl (by decide +kernel) rfl rfl (Nat.le_of_ble_eq_true rfl) dX11_four_30 (fun H locs hP hD hS => ?_)
  have hR9 : pq_R (dC, dI) vwCl A [(h0, .inr (11, mo13 fa0)), ((fa0 0), .inl (cI, 3000, .inl (upd f0 12 ((x0 >>> (24 &&& 31)) &&& 255))))] H := ⟨hP, hD⟩
  have hP := hR9.1
  have hD := hR9.2
  refine lv_iinc (v := 16) (lv' := [(2, .int 16), (0, .ref h0), (1, .int x0)]) hx hb dX11_four_33 hl (k := 0) rfl (by decide) (by decide) rfl (fun ls hl => ?_)
  refine lv_goto (tgt := 3) hx hb dX11_four_36 (by decide) ?_
  refine lv_iload_n hx hb dX11_four_3 rfl (lv_at hl 0 rfl) ?_
  refine lv_if_lt (tgt := 39) hx hb dX11_four_4 (by decide) (fun c_ => absurd c_ (by decide)) (fun _ => ?_)
  refine lv_aload_n hx hb dX11_four_7 rfl (lv_at hl 1 rfl) ?_
  refine va_get (D := (dC, dI)) (ci := 11) (v := .ref (fa0 0)) (C := RX11) (T := TX11) (N := 122) hx hb hts iq_X11_four_3_X11 hown hK hP 0 rfl rfl 0 (by decide) (hts (Cond.fieldLink RX11 3 "CodePressModel" "tape" "[I") (List.mem_of_getElem? (i := 1) rfl)) (fun _ h9 => h9) rfl dX11_four_8 ?_
  refine lv_aload_n hx hb dX11_four_11 rfl (lv_at hl 1 rfl) ?_
  refine va_get (D := (dC, dI)) (ci := 11) (v := .int 13) (C := RX11) (T := TX11) (N := 122) hx hb hts iq_X11_four_3_X11 hown hK hP 0 rfl rfl 1 (by decide) (hts (Cond.fieldLink RX11 7 "CodePressModel" "taped" "I") (List.mem_of_getElem? (i := 2) rfl)) (fun _ h9 => h9) rfl dX11_four_12 ?_
  refine lv_iload_n hx hb dX11_four_15 rfl (lv_at hl 2 rfl) ?_
  refine lv_iload_n hx hb dX11_four_16 rfl (lv_at hl 0 rfl) ?_
  refine lv_ishr hx hb dX11_four_17 ?_
  refine lv_sipush (v := 255) hx hb dX11_four_18 (by decide) ?_
  refine lv_iand hx hb dX11_four_21 ?_
  refine va_iast hx hb hK hP hD hS 1 1 rfl rfl (pq_in (by decide)) dX11_four_22 (fun H locs hP hD hS => ?_)
  have hR9 : pq_R (dC, dI) vwCl A [(h0, .inr (11, mo13 fa0)), ((fa0 0), .inl (cI, 3000, .inl (upd (upd f0 12 ((x0 >>> (24 &&& 31)) &&& 255)) 13 ((x0 >>> (16 &&& 31)) &&& 255))))] H := ⟨hP, hD⟩
  have hP := hR9.1
  have hD := hR9.2
  refine lv_aload_n hx hb dX11_four_23 rfl (lv_at hl 1 rfl) ?_
  refine lv_dup hx hb dX11_four_24 rfl ?_
  refine va_get (D := (dC, dI)) (ci := 11) (v := .int 13) (C := RX11) (T := TX11) (N := 122) hx hb hts iq_X11_four_3_X11 hown hK hP 0 rfl rfl 1 (by decide) (hts (Cond.fieldLink RX11 7 "CodePressModel" "taped" "I") (List.mem_of_getElem? (i := 2) rfl)) (fun _ h9 => h9) rfl dX11_four_25 ?_
  refine lv_iconst (v := 1) hx hb dX11_four_28 (by decide) ?_
  refine lv_iadd hx hb dX11_four_29 ?_
  refine lv_topi (fun x2 ex2 => ?_)
  obtain rfl : x2 = 14 := ex2.trans (by decide)
  refine va_put (D := (dC, dI)) (ci := 11) (v := .int 14) (ty := .int) (C := RX11) (T := TX11) (N := 122) hx hb hts iq_X11_four_3_X11 tyX11 tyX11_ok nmX11 hown hK hP hD hS 0 rfl rfl 1 (by decide) (hts (Cond.fieldLink RX11 7 "CodePressModel" "taped" "I") (List.mem_of_getElem? (i := 2) rfl)) (fun _ h9 => h9) rfl (by decide +kernel) rfl rfl (Nat.le_of_ble_eq_true rfl) dX11_four_30 (fun H locs hP hD hS => ?_)
  have hR9 : pq_R (dC, dI) vwCl A [(h0, .inr (11, mo14 fa0)), ((fa0 0), .inl (cI, 3000, .inl (upd (upd f0 12 ((x0 >>> (24 &&& 31)) &&& 255)) 13 ((x0 >>> (16 &&& 31)) &&& 255))))] H := ⟨hP, hD⟩
  have hP := hR9.1
  have hD := hR9.2
  refine lv_iinc (v := 8) (lv' := [(2, .int 8), (0, .ref h0), (1, .int x0)]) hx hb dX11_four_33 hl (k := 0) rfl (by decide) (by decide) rfl (fun ls hl => ?_)
  refine lv_goto (tgt := 3) hx hb dX11_four_36 (by decide) ?_
  refine lv_iload_n hx hb dX11_four_3 rfl (lv_at hl 0 rfl) ?_
  refine lv_if_lt (tgt := 39) hx hb dX11_four_4 (by decide) (fun c_ => absurd c_ (by decide)) (fun _ => ?_)
  refine lv_aload_n hx hb dX11_four_7 rfl (lv_at hl 1 rfl) ?_
  refine va_get (D := (dC, dI)) (ci := 11) (v := .ref (fa0 0)) (C := RX11) (T := TX11) (N := 122) hx hb hts iq_X11_four_3_X11 hown hK hP 0 rfl rfl 0 (by decide) (hts (Cond.fieldLink RX11 3 "CodePressModel" "tape" "[I") (List.mem_of_getElem? (i := 1) rfl)) (fun _ h9 => h9) rfl dX11_four_8 ?_
  refine lv_aload_n hx hb dX11_four_11 rfl (lv_at hl 1 rfl) ?_
  refine va_get (D := (dC, dI)) (ci := 11) (v := .int 14) (C := RX11) (T := TX11) (N := 122) hx hb hts iq_X11_four_3_X11 hown hK hP 0 rfl rfl 1 (by decide) (hts (Cond.fieldLink RX11 7 "CodePressModel" "taped" "I") (List.mem_of_getElem? (i := 2) rfl)) (fun _ h9 => h9) rfl dX11_four_12 ?_
  refine lv_iload_n hx hb dX11_four_15 rfl (lv_at hl 2 rfl) ?_
  refine lv_iload_n hx hb dX11_four_16 rfl (lv_at hl 0 rfl) ?_
  refine lv_ishr hx hb dX11_four_17 ?_
  refine lv_sipush (v := 255) hx hb dX11_four_18 (by decide) ?_
  refine lv_iand hx hb dX11_four_21 ?_
  refine va_iast hx hb hK hP hD hS 1 1 rfl rfl (pq_in (by decide)) dX11_four_22 (fun H locs hP hD hS => ?_)
  have hR9 : pq_R (dC, dI) vwCl A [(h0, .inr (11, mo14 fa0)), ((fa0 0), .inl (cI, 3000, .inl (upd (upd (upd f0 12 ((x0 >>> (24 &&& 31)) &&& 255)) 13 ((x0 >>> (16 &&& 31)) &&& 255)) 14 ((x0 >>> (8 &&& 31)) &&& 255))))] H := ⟨hP, hD⟩
  have hP := hR9.1
  have hD := hR9.2
  refine lv_aload_n hx hb dX11_four_23 rfl (lv_at hl 1 rfl) ?_
  refine lv_dup hx hb dX11_four_24 rfl ?_
  refine va_get (D := (dC, dI)) (ci := 11) (v := .int 14) (C := RX11) (T := TX11) (N := 122) hx hb hts iq_X11_four_3_X11 hown hK hP 0 rfl rfl 1 (by decide) (hts (Cond.fieldLink RX11 7 "CodePressModel" "taped" "I") (List.mem_of_getElem? (i := 2) rfl)) (fun _ h9 => h9) rfl dX11_four_25 ?_
  refine lv_iconst (v := 1) hx hb dX11_four_28 (by decide) ?_
  refine lv_iadd hx hb dX11_four_29 ?_
  refine lv_topi (fun x3 ex3 => ?_)
  obtain rfl : x3 = 15 := ex3.trans (by decide)
  refine va_put (D := (dC, dI)) (ci := 11) (v := .int 15) (ty := .int) (C := RX11) (T := TX11) (N := 122) hx hb hts iq_X11_four_3_X11 tyX11 tyX11_ok nmX11 hown hK hP hD hS 0 rfl rfl 1 (by decide) (hts (Cond.fieldLink RX11 7 "CodePressModel" "taped" "I") (List.mem_of_getElem? (i := 2) rfl)) (fun _ h9 => h9) rfl (by decide +kernel) rfl rfl (Nat.le_of_ble_eq_true rfl) dX11_four_30 (fun H locs hP hD hS => ?_)
  have hR9 : pq_R (dC, dI) vwCl A [(h0, .inr (11, mo15 fa0)), ((fa0 0), .inl (cI, 3000, .inl (upd (upd (upd f0 12 ((x0 >>> (24 &&& 31)) &&& 255)) 13 ((x0 >>> (16 &&& 31)) &&& 255)) 14 ((x0 >>> (8 &&& 31)) &&& 255))))] H := ⟨hP, hD⟩
  have hP := hR9.1
  have hD := hR9.2
  refine lv_iinc (v := 0) (lv' := [(2, .int 0), (0, .ref h0), (1, .int x0)]) hx hb dX11_four_33 hl (k := 0) rfl (by decide) (by decide) rfl (fun ls hl => ?_)
  refine lv_goto (tgt := 3) hx hb dX11_four_36 (by decide) ?_
  refine lv_iload_n hx hb dX11_four_3 rfl (lv_at hl 0 rfl) ?_
  refine lv_if_lt (tgt := 39) hx hb dX11_four_4 (by decide) (fun c_ => absurd c_ (by decide)) (fun _ => ?_)
  refine lv_aload_n hx hb dX11_four_7 rfl (lv_at hl 1 rfl) ?_
  refine va_get (D := (dC, dI)) (ci := 11) (v := .ref (fa0 0)) (C := RX11) (T := TX11) (N := 122) hx hb hts iq_X11_four_3_X11 hown hK hP 0 rfl rfl 0 (by decide) (hts (Cond.fieldLink RX11 3 "CodePressModel" "tape" "[I") (List.mem_of_getElem? (i := 1) rfl)) (fun _ h9 => h9) rfl dX11_four_8 ?_
  refine lv_aload_n hx hb dX11_four_11 rfl (lv_at hl 1 rfl) ?_
  refine va_get (D := (dC, dI)) (ci := 11) (v := .int 15) (C := RX11) (T := TX11) (N := 122) hx hb hts iq_X11_four_3_X11 hown hK hP 0 rfl rfl 1 (by decide) (hts (Cond.fieldLink RX11 7 "CodePressModel" "taped" "I") (List.mem_of_getElem? (i := 2) rfl)) (fun _ h9 => h9) rfl dX11_four_12 ?_
  refine lv_iload_n hx hb dX11_four_15 rfl (lv_at hl 2 rfl) ?_
  refine lv_iload_n hx hb dX11_four_16 rfl (lv_at hl 0 rfl) ?_
  refine lv_ishr hx hb dX11_four_17 ?_
  refine lv_sipush (v := 255) hx hb dX11_four_18 (by decide) ?_
  refine lv_iand hx hb dX11_four_21 ?_
  refine va_iast hx hb hK hP hD hS 1 1 rfl rfl (pq_in (by decide)) dX11_four_22 (fun H locs hP hD hS => ?_)
  have hR9 : pq_R (dC, dI) vwCl A [(h0, .inr (11, mo15 fa0)), ((fa0 0), .inl (cI, 3000, .inl (upd (upd (upd (upd f0 12 ((x0 >>> (24 &&& 31)) &&& 255)) 13 ((x0 >>> (16 &&& 31)) &&& 255)) 14 ((x0 >>> (8 &&& 31)) &&& 255)) 15 ((x0 >>> (0 &&& 31)) &&& 255))))] H := ⟨hP, hD⟩
  have hP := hR9.1
  have hD := hR9.2
  refine lv_aload_n hx hb dX11_four_23 rfl (lv_at hl 1 rfl) ?_
  refine lv_dup hx hb dX11_four_24 rfl ?_
  refine va_get (D := (dC, dI)) (ci := 11) (v := .int 15) (C := RX11) (T := TX11) (N := 122) hx hb hts iq_X11_four_3_X11 hown hK hP 0 rfl rfl 1 (by decide) (hts (Cond.fieldLink RX11 7 "CodePressModel" "taped" "I") (List.mem_of_getElem? (i := 2) rfl)) (fun _ h9 => h9) rfl dX11_four_25 ?_
  refine lv_iconst (v := 1) hx hb dX11_four_28 (by decide) ?_
  refine lv_iadd hx hb dX11_four_29 ?_
  refine lv_topi (fun x4 ex4 => ?_)
  obtain rfl : x4 = 16 := ex4.trans (by decide)
  refine va_put (D := (dC, dI)) (ci := 11) (v := .int 16) (ty := .int) (C := RX11) (T := TX11) (N := 122) hx hb hts iq_X11_four_3_X11 tyX11 tyX11_ok nmX11 hown hK hP hD hS 0 rfl rfl 1 (by decide) (hts (Cond.fieldLink RX11 7 "CodePressModel" "taped" "I") (List.mem_of_getElem? (i := 2) rfl)) (fun _ h9 => h9) rfl (by decide +kernel) rfl rfl (Nat.le_of_ble_eq_true rfl) dX11_four_30 (fun H locs hP hD hS => ?_)
  have hR9 : pq_R (dC, dI) vwCl A [(h0, .inr (11, mo16 fa0)), ((fa0 0), .inl (cI, 3000, .inl (upd (upd (upd (upd f0 12 ((x0 >>> (24 &&& 31)) &&& 255)) 13 ((x0 >>> (16 &&& 31)) &&& 255)) 14 ((x0 >>> (8 &&& 31)) &&& 255)) 15 ((x0 >>> (0 &&& 31)) &&& 255))))] H := ⟨hP, hD⟩
  have hP := hR9.1
  have hD := hR9.2
  refine lv_iinc (v := (-8)) (lv' := [(2, .int (-8)), (0, .ref h0), (1, .int x0)]) hx hb dX11_four_33 hl (k := 0) rfl (by decide) (by decide) rfl (fun ls hl => ?_)
  refine lv_goto (tgt := 3) hx hb dX11_four_36 (by decide) ?_
  refine lv_iload_n hx hb dX11_four_3 rfl (lv_at hl 0 rfl) ?_
  refine lv_if_lt (tgt := 39) hx hb dX11_four_4 (by decide) (fun _ => ?_) (fun c_ => absurd (by decide) c_)
  have hP9 := pq_P.pick (wc := [(h0, .inr (11, mo16 fa0)), ((fa0 0), .inl (cI, 3000, .inl (upd (upd (upd (upd f0 12 ((x0 >>> (24 &&& 31)) &&& 255)) 13 ((x0 >>> (16 &&& 31)) &&& 255)) 14 ((x0 >>> (8 &&& 31)) &&& 255)) 15 ((x0 >>> (0 &&& 31)) &&& 255))))]) hP [0, 1] rfl
  have hD9 := hD.sub (ws' := [(h0, .inr (11, mo16 fa0)), ((fa0 0), .inl (cI, 3000, .inl (upd (upd (upd (upd f0 12 ((x0 >>> (24 &&& 31)) &&& 255)) 13 ((x0 >>> (16 &&& 31)) &&& 255)) 14 ((x0 >>> (8 &&& 31)) &&& 255)) 15 ((x0 >>> (0 &&& 31)) &&& 255))))]) [0, 1] (by decide) rfl
  refine W.widen (k := 0) (n := 0) (by decide +kernel) (by decide +kernel) ?_
  exact W.vret hx hb hr (fun t ht hW => ⟨⟨sq_u [] [], rfl, trivial, pq_B.of ht hP9 hD9⟩, hS.F ht⟩) hS.2.2 dX11_four_39
def wq_X11_four_4_r1 : List Cond := [Cond.fieldLink RX11 3 "CodePressModel" "tape" "[I", Cond.fieldLink RX11 7 "CodePressModel" "taped" "I"]
def wq_X11_four_4 : List Cond := Cond.code yX11_four cX11_four 3 none :: (wq_X11_four_4_r1 ++ wsX110)
theorem iq_X11_four_4_X11 : ∀ w ∈ wsX110, w ∈ wq_X11_four_4 := fun _ h => List.mem_cons_of_mem _ (List.mem_append_right _ h)
set_option maxHeartbeats 4000000 in
set_option maxRecDepth 100000 in
theorem cq_X11_four_4 (l : Launch) (dC : Nat → ClassId) (dI : Nat → Nat → Nat) (cB cI cJ cZ : ClassId) (h0 : Nat) (fa0 : Nat → Nat) (x0 : Int32) (f0 : Nat → Int32) (sz : Nat) : Met l yX11_four wq_X11_four_4 ({ frames := 0, cells := 0, slots := 0, locals := 0 }) (va_Pc [.ref h0, .int x0] (pq_W (dC, dI) vwCl (tyQ cB cI cJ cZ) [(h0, .inr (11, mo16 fa0)), ((fa0 0), .inl (cI, 3000, .inl f0))] sz)) (va_Qv (fun (_ : SQ) => True) (fun u => pq_B (dC, dI) vwCl [(h0, .inr (11, mo20 fa0)), ((fa0 0), .inl (cI, 3000, .inl (upd (upd (upd (upd f0 16 ((x0 >>> (24 &&& 31)) &&& 255)) 17 ((x0 >>> (16 &&& 31)) &&& 255)) 18 ((x0 >>> (8 &&& 31)) &&& 255)) 19 ((x0 >>> (0 &&& 31)) &&& 255))))] (va_A [(h0, .inr (11, mo16 fa0)), ((fa0 0), .inl (cI, 3000, .inl f0))] sz)) (va_A [(h0, .inr (11, mo16 fa0)), ((fa0 0), .inl (cI, 3000, .inl f0))] sz)) 0 0 (va_A [(h0, .inr (11, mo16 fa0)), ((fa0 0), .inl (cI, 3000, .inl f0))] sz) := by
  refine Met.ofW (cc := cX11_four) (maxL := 3) (ret := none) (by decide) rfl ?_
  intro p e s m args below meth c s₁ B hml hv
  obtain ⟨rfl, hsz, hP, hK, hD0⟩ := hv
  have hx := B.exec
  have hb := B.bytes
  have hr := B.returns
  have hts := atoms_spec (ws := wq_X11_four_4) B.pre
  have hown : s.vm.findClass RX11 = some m.cls := findClass_of_methodNamed B.named
  have hlocks := B.notSynchronized
  subst hsz
  have hD := hD0.self (sz := s.heap.size)
  generalize hAe : va_A [(h0, .inr (11, mo16 fa0)), ((fa0 0), .inl (cI, 3000, .inl f0))] s.heap.size = A at hD ⊢
  have hA : ∀ q : Nat, s.heap.size ≤ q → A q := fun q h => by rw [← hAe]; exact Or.inr h
  have hS : va_S A s.heap s.heap [] := va_S.rf
  have hP : va_P (dC, dI) vwCl [(h0, .inr (11, mo16 fa0)), ((fa0 0), .inl (cI, 3000, .inl f0))] s.heap := hP
  obtain ⟨H, hH⟩ : ∃ H, H = s.heap := ⟨_, rfl⟩
  rw [← hH] at hP
  have hS : va_S A s.heap H [] := by rw [hH]; exact hS
  have hl := lv_entry ([.ref h0, .int x0]) (n := 3) (Nat.le_of_ble_eq_true rfl)
  rw [lg_entry_eq]
  generalize (lg_sl ([.ref h0, .int x0]) ++ List.replicate (3 - (lg_sl ([.ref h0, .int x0])).length) Slot.unset).toArray = ls at hl ⊢
  have hl : lv_has ls 3 [(0, .ref h0), (1, .int x0)] := hl
  refine pq_heap hH ?_
  refine lv_bipush (v := 24) hx hb dX11_four_0 (by decide) ?_
  refine lv_istore_n (lv' := [(2, .int 24), (0, .ref h0), (1, .int x0)]) hx hb dX11_four_2 rfl hl (by decide) rfl (fun ls hl => ?_)
  refine lv_iload_n hx hb dX11_four_3 rfl (lv_at hl 0 rfl) ?_
  refine lv_if_lt (tgt := 39) hx hb dX11_four_4 (by decide) (fun c_ => absurd c_ (by decide)) (fun _ => ?_)
  refine lv_aload_n hx hb dX11_four_7 rfl (lv_at hl 1 rfl) ?_
  refine va_get (D := (dC, dI)) (ci := 11) (v := .ref (fa0 0)) (C := RX11) (T := TX11) (N := 122) hx hb hts iq_X11_four_4_X11 hown hK hP 0 rfl rfl 0 (by decide) (hts (Cond.fieldLink RX11 3 "CodePressModel" "tape" "[I") (List.mem_of_getElem? (i := 1) rfl)) (fun _ h9 => h9) rfl dX11_four_8 ?_
  refine lv_aload_n hx hb dX11_four_11 rfl (lv_at hl 1 rfl) ?_
  refine va_get (D := (dC, dI)) (ci := 11) (v := .int 16) (C := RX11) (T := TX11) (N := 122) hx hb hts iq_X11_four_4_X11 hown hK hP 0 rfl rfl 1 (by decide) (hts (Cond.fieldLink RX11 7 "CodePressModel" "taped" "I") (List.mem_of_getElem? (i := 2) rfl)) (fun _ h9 => h9) rfl dX11_four_12 ?_
  refine lv_iload_n hx hb dX11_four_15 rfl (lv_at hl 2 rfl) ?_
  refine lv_iload_n hx hb dX11_four_16 rfl (lv_at hl 0 rfl) ?_
  refine lv_ishr hx hb dX11_four_17 ?_
  refine lv_sipush (v := 255) hx hb dX11_four_18 (by decide) ?_
  refine lv_iand hx hb dX11_four_21 ?_
  refine va_iast hx hb hK hP hD hS 1 1 rfl rfl (pq_in (by decide)) dX11_four_22 (fun H locs hP hD hS => ?_)
  have hR9 : pq_R (dC, dI) vwCl A [(h0, .inr (11, mo16 fa0)), ((fa0 0), .inl (cI, 3000, .inl (upd f0 16 ((x0 >>> (24 &&& 31)) &&& 255))))] H := ⟨hP, hD⟩
  have hP := hR9.1
  have hD := hR9.2
  refine lv_aload_n hx hb dX11_four_23 rfl (lv_at hl 1 rfl) ?_
  refine lv_dup hx hb dX11_four_24 rfl ?_
  refine va_get (D := (dC, dI)) (ci := 11) (v := .int 16) (C := RX11) (T := TX11) (N := 122) hx hb hts iq_X11_four_4_X11 hown hK hP 0 rfl rfl 1 (by decide) (hts (Cond.fieldLink RX11 7 "CodePressModel" "taped" "I") (List.mem_of_getElem? (i := 2) rfl)) (fun _ h9 => h9) rfl dX11_four_25 ?_
  refine lv_iconst (v := 1) hx hb dX11_four_28 (by decide) ?_
  refine lv_iadd hx hb dX11_four_29 ?_
  refine lv_topi (fun x1 ex1 => ?_)
  obtain rfl : x1 = 17 := ex1.trans (by decide)
  refine va_put (D := (dC, dI)) (ci := 11) (v := .int 17) (ty := .int) (C := RX11) (T := TX11) (N := 122) hx hb hts iq_X11_four_4_X11 tyX11 tyX11_ok nmX11 hown hK hP hD hS 0 rfl rfl 1 (by decide) (hts (Cond.fieldLink RX11 7 "CodePressModel" "taped" "I") (List.mem_of_getElem? (i := 2) rfl)) (fun _ h9 => h9) rfl (by decide +kernel) rfl rfl (Nat.le_of_ble_eq_true rfl) dX11_four_30 (fun H locs hP hD hS => ?_)
  have hR9 : pq_R (dC, dI) vwCl A [(h0, .inr (11, mo17 fa0)), ((fa0 0), .inl (cI, 3000, .inl (upd f0 16 ((x0 >>> (24 &&& 31)) &&& 255))))] H := ⟨hP, hD⟩
  have hP := hR9.1
  have hD := hR9.2
  refine lv_iinc (v := 16) (lv' := [(2, .int 16), (0, .ref h0), (1, .int x0)]) hx hb dX11_four_33 hl (k := 0) rfl (by decide) (by decide) rfl (fun ls hl => ?_)
  refine lv_goto (tgt := 3) hx hb dX11_four_36 (by decide) ?_
  refine lv_iload_n hx hb dX11_four_3 rfl (lv_at hl 0 rfl) ?_
  refine lv_if_lt (tgt := 39) hx hb dX11_four_4 (by decide) (fun c_ => absurd c_ (by decide)) (fun _ => ?_)
  refine lv_aload_n hx hb dX11_four_7 rfl (lv_at hl 1 rfl) ?_
  refine va_get (D := (dC, dI)) (ci := 11) (v := .ref (fa0 0)) (C := RX11) (T := TX11) (N := 122) hx hb hts iq_X11_four_4_X11 hown hK hP 0 rfl rfl 0 (by decide) (hts (Cond.fieldLink RX11 3 "CodePressModel" "tape" "[I") (List.mem_of_getElem? (i := 1) rfl)) (fun _ h9 => h9) rfl dX11_four_8 ?_
  refine lv_aload_n hx hb dX11_four_11 rfl (lv_at hl 1 rfl) ?_
  refine va_get (D := (dC, dI)) (ci := 11) (v := .int 17) (C := RX11) (T := TX11) (N := 122) hx hb hts iq_X11_four_4_X11 hown hK hP 0 rfl rfl 1 (by decide) (hts (Cond.fieldLink RX11 7 "CodePressModel" "taped" "I") (List.mem_of_getElem? (i := 2) rfl)) (fun _ h9 => h9) rfl dX11_four_12 ?_
  refine lv_iload_n hx hb dX11_four_15 rfl (lv_at hl 2 rfl) ?_
  refine lv_iload_n hx hb dX11_four_16 rfl (lv_at hl 0 rfl) ?_
  refine lv_ishr hx hb dX11_four_17 ?_
  refine lv_sipush (v := 255) hx hb dX11_four_18 (by decide) ?_
  refine lv_iand hx hb dX11_four_21 ?_
  refine va_iast hx hb hK hP hD hS 1 1 rfl rfl (pq_in (by decide)) dX11_four_22 (fun H locs hP hD hS => ?_)
  have hR9 : pq_R (dC, dI) vwCl A [(h0, .inr (11, mo17 fa0)), ((fa0 0), .inl (cI, 3000, .inl (upd (upd f0 16 ((x0 >>> (24 &&& 31)) &&& 255)) 17 ((x0 >>> (16 &&& 31)) &&& 255))))] H := ⟨hP, hD⟩
  have hP := hR9.1
  have hD := hR9.2
  refine lv_aload_n hx hb dX11_four_23 rfl (lv_at hl 1 rfl) ?_
  refine lv_dup hx hb dX11_four_24 rfl ?_
  refine va_get (D := (dC, dI)) (ci := 11) (v := .int 17) (C := RX11) (T := TX11) (N := 122) hx hb hts iq_X11_four_4_X11 hown hK hP 0 rfl rfl 1 (by decide) (hts (Cond.fieldLink RX11 7 "CodePressModel" "taped" "I") (List.mem_of_getElem? (i := 2) rfl)) (fun _ h9 => h9) rfl dX11_four_25 ?_
  refine lv_iconst (v := 1) hx hb dX11_four_28 (by decide) ?_
  refine lv_iadd hx hb dX11_four_29 ?_
  refine lv_topi (fun x2 ex2 => ?_)
  obtain rfl : x2 = 18 := ex2.trans (by decide)
  refine va_put (D := (dC, dI)) (ci := 11) (v := .int 18) (ty := .int) (C := RX11) (T := TX11) (N := 122) hx hb hts iq_X11_four_4_X11 tyX11 tyX11_ok nmX11 hown hK hP hD hS 0 rfl rfl 1 (by decide) (hts (Cond.fieldLink RX11 7 "CodePressModel" "taped" "I") (List.mem_of_getElem? (i := 2) rfl)) (fun _ h9 => h9) rfl (by decide +kernel) rfl rfl (Nat.le_of_ble_eq_true rfl) dX11_four_30 (fun H locs hP hD hS => ?_)
  have hR9 : pq_R (dC, dI) vwCl A [(h0, .inr (11, mo18 fa0)), ((fa0 0), .inl (cI, 3000, .inl (upd (upd f0 16 ((x0 >>> (24 &&& 31)) &&& 255)) 17 ((x0 >>> (16 &&& 31)) &&& 255))))] H := ⟨hP, hD⟩
  have hP := hR9.1
  have hD := hR9.2
  refine lv_iinc (v := 8) (lv' := [(2, .int 8), (0, .ref h0), (1, .int x0)]) hx hb dX11_four_33 hl (k := 0) rfl (by decide) (by decide) rfl (fun ls hl => ?_)
  refine lv_goto (tgt := 3) hx hb dX11_four_36 (by decide) ?_
  refine lv_iload_n hx hb dX11_four_3 rfl (lv_at hl 0 rfl) ?_
  refine lv_if_lt (tgt := 39) hx hb dX11_four_4 (by decide) (fun c_ => absurd c_ (by decide)) (fun _ => ?_)
  refine lv_aload_n hx hb dX11_four_7 rfl (lv_at hl 1 rfl) ?_
  refine va_get (D := (dC, dI)) (ci := 11) (v := .ref (fa0 0)) (C := RX11) (T := TX11) (N := 122) hx hb hts iq_X11_four_4_X11 hown hK hP 0 rfl rfl 0 (by decide) (hts (Cond.fieldLink RX11 3 "CodePressModel" "tape" "[I") (List.mem_of_getElem? (i := 1) rfl)) (fun _ h9 => h9) rfl dX11_four_8 ?_
  refine lv_aload_n hx hb dX11_four_11 rfl (lv_at hl 1 rfl) ?_
  refine va_get (D := (dC, dI)) (ci := 11) (v := .int 18) (C := RX11) (T := TX11) (N := 122) hx hb hts iq_X11_four_4_X11 hown hK hP 0 rfl rfl 1 (by decide) (hts (Cond.fieldLink RX11 7 "CodePressModel" "taped" "I") (List.mem_of_getElem? (i := 2) rfl)) (fun _ h9 => h9) rfl dX11_four_12 ?_
  refine lv_iload_n hx hb dX11_four_15 rfl (lv_at hl 2 rfl) ?_
  refine lv_iload_n hx hb dX11_four_16 rfl (lv_at hl 0 rfl) ?_
  refine lv_ishr hx hb dX11_four_17 ?_
  refine lv_sipush (v := 255) hx hb dX11_four_18 (by decide) ?_
  refine lv_iand hx hb dX11_four_21 ?_
  refine va_iast hx hb hK hP hD hS 1 1 rfl rfl (pq_in (by decide)) dX11_four_22 (fun H locs hP hD hS => ?_)
  have hR9 : pq_R (dC, dI) vwCl A [(h0, .inr (11, mo18 fa0)), ((fa0 0), .inl (cI, 3000, .inl (upd (upd (upd f0 16 ((x0 >>> (24 &&& 31)) &&& 255)) 17 ((x0 >>> (16 &&& 31)) &&& 255)) 18 ((x0 >>> (8 &&& 31)) &&& 255))))] H := ⟨hP, hD⟩
  have hP := hR9.1
  have hD := hR9.2
  refine lv_aload_n hx hb dX11_four_23 rfl (lv_at hl 1 rfl) ?_
  refine lv_dup hx hb dX11_four_24 rfl ?_
  refine va_get (D := (dC, dI)) (ci := 11) (v := .int 18) (C := RX11) (T := TX11) (N := 122) hx hb hts iq_X11_four_4_X11 hown hK hP 0 rfl rfl 1 (by decide) (hts (Cond.fieldLink RX11 7 "CodePressModel" "taped" "I") (List.mem_of_getElem? (i := 2) rfl)) (fun _ h9 => h9) rfl dX11_four_25 ?_
  refine lv_iconst (v := 1) hx hb dX11_four_28 (by decide) ?_
  refine lv_iadd hx hb dX11_four_29 ?_
  refine lv_topi (fun x3 ex3 => ?_)
  obtain rfl : x3 = 19 := ex3.trans (by decide)
  refine va_put (D := (dC, dI)) (ci := 11) (v := .int 19) (ty := .int) (C := RX11) (T := TX11) (N := 122) hx hb hts iq_X11_four_4_X11 tyX11 tyX11_ok nmX11 hown hK hP hD hS 0 rfl rfl 1 (by decide) (hts (Cond.fieldLink RX11 7 "CodePressModel" "taped" "I") (List.mem_of_getElem? (i := 2) rfl)) (fun _ h9 => h9) rfl (by decide +kernel) rfl rfl (Nat.le_of_ble_eq_true rfl) dX11_four_30 (fun H locs hP hD hS => ?_)
  have hR9 : pq_R (dC, dI) vwCl A [(h0, .inr (11, mo19 fa0)), ((fa0 0), .inl (cI, 3000, .inl (upd (upd (upd f0 16 ((x0 >>> (24 &&& 31)) &&& 255)) 17 ((x0 >>> (16 &&& 31)) &&& 255)) 18 ((x0 >>> (8 &&& 31)) &&& 255))))] H := ⟨hP, hD⟩
  have hP := hR9.1
  have hD := hR9.2
  refine lv_iinc (v := 0) (lv' := [(2, .int 0), (0, .ref h0), (1, .int x0)]) hx hb dX11_four_33 hl (k := 0) rfl (by decide) (by decide) rfl (fun ls hl => ?_)
  refine lv_goto (tgt := 3) hx hb dX11_four_36 (by decide) ?_
  refine lv_iload_n hx hb dX11_four_3 rfl (lv_at hl 0 rfl) ?_
  refine lv_if_lt (tgt := 39) hx hb dX11_four_4 (by decide) (fun c_ => absurd c_ (by decide)) (fun _ => ?_)
  refine lv_aload_n hx hb dX11_four_7 rfl (lv_at hl 1 rfl) ?_
  refine va_get (D := (dC, dI)) (ci := 11) (v := .ref (fa0 0)) (C := RX11) (T := TX11) (N := 122) hx hb hts iq_X11_four_4_X11 hown hK hP 0 rfl rfl 0 (by decide) (hts (Cond.fieldLink RX11 3 "CodePressModel" "tape" "[I") (List.mem_of_getElem? (i := 1) rfl)) (fun _ h9 => h9) rfl dX11_four_8 ?_
  refine lv_aload_n hx hb dX11_four_11 rfl (lv_at hl 1 rfl) ?_
  refine va_get (D := (dC, dI)) (ci := 11) (v := .int 19) (C := RX11) (T := TX11) (N := 122) hx hb hts iq_X11_four_4_X11 hown hK hP 0 rfl rfl 1 (by decide) (hts (Cond.fieldLink RX11 7 "CodePressModel" "taped" "I") (List.mem_of_getElem? (i := 2) rfl)) (fun _ h9 => h9) rfl dX11_four_12 ?_
  refine lv_iload_n hx hb dX11_four_15 rfl (lv_at hl 2 rfl) ?_
  refine lv_iload_n hx hb dX11_four_16 rfl (lv_at hl 0 rfl) ?_
  refine lv_ishr hx hb dX11_four_17 ?_
  refine lv_sipush (v := 255) hx hb dX11_four_18 (by decide) ?_
  refine lv_iand hx hb dX11_four_21 ?_
  refine va_iast hx hb hK hP hD hS 1 1 rfl rfl (pq_in (by decide)) dX11_four_22 (fun H locs hP hD hS => ?_)
  have hR9 : pq_R (dC, dI) vwCl A [(h0, .inr (11, mo19 fa0)), ((fa0 0), .inl (cI, 3000, .inl (upd (upd (upd (upd f0 16 ((x0 >>> (24 &&& 31)) &&& 255)) 17 ((x0 >>> (16 &&& 31)) &&& 255)) 18 ((x0 >>> (8 &&& 31)) &&& 255)) 19 ((x0 >>> (0 &&& 31)) &&& 255))))] H := ⟨hP, hD⟩
  have hP := hR9.1
  have hD := hR9.2
  refine lv_aload_n hx hb dX11_four_23 rfl (lv_at hl 1 rfl) ?_
  refine lv_dup hx hb dX11_four_24 rfl ?_
  refine va_get (D := (dC, dI)) (ci := 11) (v := .int 19) (C := RX11) (T := TX11) (N := 122) hx hb hts iq_X11_four_4_X11 hown hK hP 0 rfl rfl 1 (by decide) (hts (Cond.fieldLink RX11 7 "CodePressModel" "taped" "I") (List.mem_of_getElem? (i := 2) rfl)) (fun _ h9 => h9) rfl dX11_four_25 ?_
  refine lv_iconst (v := 1) hx hb dX11_four_28 (by decide) ?_
  refine lv_iadd hx hb dX11_four_29 ?_
  refine lv_topi (fun x4 ex4 => ?_)
  obtain rfl : x4 = 20 := ex4.trans (by decide)
  refine va_put (D := (dC, dI)) (ci := 11) (v := .int 20) (ty := .int) (C := RX11) (T := TX11) (N := 122) hx hb hts iq_X11_four_4_X11 tyX11 tyX11_ok nmX11 hown hK hP hD hS 0 rfl rfl 1 (by decide) (hts (Cond.fieldLink RX11 7 "CodePressModel" "taped" "I") (List.mem_of_getElem? (i := 2) rfl)) (fun _ h9 => h9) rfl (by decide +kernel) rfl rfl (Nat.le_of_ble_eq_true rfl) dX11_four_30 (fun H locs hP hD hS => ?_)
  have hR9 : pq_R (dC, dI) vwCl A [(h0, .inr (11, mo20 fa0)), ((fa0 0), .inl (cI, 3000, .inl (upd (upd (upd (upd f0 16 ((x0 >>> (24 &&& 31)) &&& 255)) 17 ((x0 >>> (16 &&& 31)) &&& 255)) 18 ((x0 >>> (8 &&& 31)) &&& 255)) 19 ((x0 >>> (0 &&& 31)) &&& 255))))] H := ⟨hP, hD⟩
  have hP := hR9.1
  have hD := hR9.2
  refine lv_iinc (v := (-8)) (lv' := [(2, .int (-8)), (0, .ref h0), (1, .int x0)]) hx hb dX11_four_33 hl (k := 0) rfl (by decide) (by decide) rfl (fun ls hl => ?_)
  refine lv_goto (tgt := 3) hx hb dX11_four_36 (by decide) ?_
  refine lv_iload_n hx hb dX11_four_3 rfl (lv_at hl 0 rfl) ?_
  refine lv_if_lt (tgt := 39) hx hb dX11_four_4 (by decide) (fun _ => ?_) (fun c_ => absurd (by decide) c_)
  have hP9 := pq_P.pick (wc := [(h0, .inr (11, mo20 fa0)), ((fa0 0), .inl (cI, 3000, .inl (upd (upd (upd (upd f0 16 ((x0 >>> (24 &&& 31)) &&& 255)) 17 ((x0 >>> (16 &&& 31)) &&& 255)) 18 ((x0 >>> (8 &&& 31)) &&& 255)) 19 ((x0 >>> (0 &&& 31)) &&& 255))))]) hP [0, 1] rfl
  have hD9 := hD.sub (ws' := [(h0, .inr (11, mo20 fa0)), ((fa0 0), .inl (cI, 3000, .inl (upd (upd (upd (upd f0 16 ((x0 >>> (24 &&& 31)) &&& 255)) 17 ((x0 >>> (16 &&& 31)) &&& 255)) 18 ((x0 >>> (8 &&& 31)) &&& 255)) 19 ((x0 >>> (0 &&& 31)) &&& 255))))]) [0, 1] (by decide) rfl
  refine W.widen (k := 0) (n := 0) (by decide +kernel) (by decide +kernel) ?_
  exact W.vret hx hb hr (fun t ht hW => ⟨⟨sq_u [] [], rfl, trivial, pq_B.of ht hP9 hD9⟩, hS.F ht⟩) hS.2.2 dX11_four_39
def wq_X11_feed_r1 : List Cond := [Cond.fieldLink RX11 7 "CodePressModel" "taped" "I", Cond.code yX11_four cX11_four 3 none, Cond.fieldLink RX11 3 "CodePressModel" "tape" "[I", Cond.methodLink RX11 11 yX11_four, Cond.instanceMethod yX11_four, Cond.selects RX11 yX11_four yX11_four, Cond.initialized RX11]
def wq_X11_feed : List Cond := Cond.code yX11_feed cX11_feed 6 (some .int) :: (wq_X11_feed_r1 ++ wsX110)
theorem iq_X11_feed_X11 : ∀ w ∈ wsX110, w ∈ wq_X11_feed := fun _ h => List.mem_cons_of_mem _ (List.mem_append_right _ h)
set_option maxRecDepth 20000 in
theorem gq_X11_feed_X11_four_11_0 : GoodIn wq_X11_feed (Cond.code yX11_four cX11_four 3 none :: wq_X11_four_r1) := goodIn_r _ [2, 3, 1] (by decide +kernel) (by decide +kernel)
set_option maxRecDepth 20000 in
theorem gq_X11_feed_X11_four_11 : GoodIn wq_X11_feed (wsV RX11 11 RX11 yX11_four wq_X11_four) := goodIn_app (goodIn_r _ [4, 5, 6, 7] (by decide +kernel) (by decide +kernel)) (goodIn_ca gq_X11_feed_X11_four_11_0 (goodIn_sub iq_X11_feed_X11 guX11))
set_option maxRecDepth 20000 in
theorem gq_X11_feed_X11_four_1_11_0 : GoodIn wq_X11_feed (Cond.code yX11_four cX11_four 3 none :: wq_X11_four_1_r1) := goodIn_r _ [2, 3, 1] (by decide +kernel) (by decide +kernel)
set_option maxRecDepth 20000 in
theorem gq_X11_feed_X11_four_1_11 : GoodIn wq_X11_feed (wsV RX11 11 RX11 yX11_four wq_X11_four_1) := goodIn_app (goodIn_r _ [4, 5, 6, 7] (by decide +kernel) (by decide +kernel)) (goodIn_ca gq_X11_feed_X11_four_1_11_0 (goodIn_sub iq_X11_feed_X11 guX11))
set_option maxRecDepth 20000 in
theorem gq_X11_feed_X11_four_2_11_0 : GoodIn wq_X11_feed (Cond.code yX11_four cX11_four 3 none :: wq_X11_four_2_r1) := goodIn_r _ [2, 3, 1] (by decide +kernel) (by decide +kernel)
set_option maxRecDepth 20000 in
theorem gq_X11_feed_X11_four_2_11 : GoodIn wq_X11_feed (wsV RX11 11 RX11 yX11_four wq_X11_four_2) := goodIn_app (goodIn_r _ [4, 5, 6, 7] (by decide +kernel) (by decide +kernel)) (goodIn_ca gq_X11_feed_X11_four_2_11_0 (goodIn_sub iq_X11_feed_X11 guX11))
set_option maxRecDepth 20000 in
theorem gq_X11_feed_X11_four_3_11_0 : GoodIn wq_X11_feed (Cond.code yX11_four cX11_four 3 none :: wq_X11_four_3_r1) := goodIn_r _ [2, 3, 1] (by decide +kernel) (by decide +kernel)
set_option maxRecDepth 20000 in
theorem gq_X11_feed_X11_four_3_11 : GoodIn wq_X11_feed (wsV RX11 11 RX11 yX11_four wq_X11_four_3) := goodIn_app (goodIn_r _ [4, 5, 6, 7] (by decide +kernel) (by decide +kernel)) (goodIn_ca gq_X11_feed_X11_four_3_11_0 (goodIn_sub iq_X11_feed_X11 guX11))
set_option maxRecDepth 20000 in
theorem gq_X11_feed_X11_four_4_11_0 : GoodIn wq_X11_feed (Cond.code yX11_four cX11_four 3 none :: wq_X11_four_4_r1) := goodIn_r _ [2, 3, 1] (by decide +kernel) (by decide +kernel)
set_option maxRecDepth 20000 in
theorem gq_X11_feed_X11_four_4_11 : GoodIn wq_X11_feed (wsV RX11 11 RX11 yX11_four wq_X11_four_4) := goodIn_app (goodIn_r _ [4, 5, 6, 7] (by decide +kernel) (by decide +kernel)) (goodIn_ca gq_X11_feed_X11_four_4_11_0 (goodIn_sub iq_X11_feed_X11 guX11))
set_option maxHeartbeats 4000000 in
set_option maxRecDepth 100000 in
theorem cq_X11_feed (l : Launch) (dC : Nat → ClassId) (dI : Nat → Nat → Nat) (cB cI cJ cZ : ClassId) (h0 : Nat) (fa0 : Nat → Nat) (x0 : Int32) (x1 : Int32) (x2 : Int32) (x3 : Int32) (x4 : Int32) (sz : Nat) : Met l yX11_feed wq_X11_feed ({ frames := 1, cells := 0, slots := 0, locals := 22 }) (va_Pc [.ref h0, .int x0, .int x1, .int x2, .int x3, .int x4] (pq_W (dC, dI) vwCl (tyQ cB cI cJ cZ) [(h0, .inr (11, mo0 fa0)), ((fa0 0), .inl (cI, 3000, .inl (fun _ => 0)))] sz)) (va_Qi (fun (r : Int32) (_ : SQ) => r = 20) (fun u => pq_B (dC, dI) vwCl [(h0, .inr (11, mo20 fa0)), ((fa0 0), .inl (cI, 3000, .inl (upd (upd (upd (upd (upd (upd (upd (upd (upd (upd (upd (upd (upd (upd (upd (upd (upd (upd (upd (upd (fun _ => 0) 0 ((x0 >>> (24 &&& 31)) &&& 255)) 1 ((x0 >>> (16 &&& 31)) &&& 255)) 2 ((x0 >>> (8 &&& 31)) &&& 255)) 3 ((x0 >>> (0 &&& 31)) &&& 255)) 4 ((x1 >>> (24 &&& 31)) &&& 255)) 5 ((x1 >>> (16 &&& 31)) &&& 255)) 6 ((x1 >>> (8 &&& 31)) &&& 255)) 7 ((x1 >>> (0 &&& 31)) &&& 255)) 8 ((x2 >>> (24 &&& 31)) &&& 255)) 9 ((x2 >>> (16 &&& 31)) &&& 255)) 10 ((x2 >>> (8 &&& 31)) &&& 255)) 11 ((x2 >>> (0 &&& 31)) &&& 255)) 12 ((x3 >>> (24 &&& 31)) &&& 255)) 13 ((x3 >>> (16 &&& 31)) &&& 255)) 14 ((x3 >>> (8 &&& 31)) &&& 255)) 15 ((x3 >>> (0 &&& 31)) &&& 255)) 16 ((x4 >>> (24 &&& 31)) &&& 255)) 17 ((x4 >>> (16 &&& 31)) &&& 255)) 18 ((x4 >>> (8 &&& 31)) &&& 255)) 19 ((x4 >>> (0 &&& 31)) &&& 255))))] (va_A [(h0, .inr (11, mo0 fa0)), ((fa0 0), .inl (cI, 3000, .inl (fun _ => 0)))] sz)) (va_A [(h0, .inr (11, mo0 fa0)), ((fa0 0), .inl (cI, 3000, .inl (fun _ => 0)))] sz)) 0 0 (va_A [(h0, .inr (11, mo0 fa0)), ((fa0 0), .inl (cI, 3000, .inl (fun _ => 0)))] sz) := by
  refine Met.ofW (cc := cX11_feed) (maxL := 6) (ret := (some .int)) (by decide) rfl ?_
  intro p e s m args below meth c s₁ B hml hv
  obtain ⟨rfl, hsz, hP, hK, hD0⟩ := hv
  have hx := B.exec
  have hb := B.bytes
  have hr := B.returns
  have hts := atoms_spec (ws := wq_X11_feed) B.pre
  have hown : s.vm.findClass RX11 = some m.cls := findClass_of_methodNamed B.named
  have hlocks := B.notSynchronized
  subst hsz
  have hD := hD0.self (sz := s.heap.size)
  generalize hAe : va_A [(h0, .inr (11, mo0 fa0)), ((fa0 0), .inl (cI, 3000, .inl (fun _ => 0)))] s.heap.size = A at hD ⊢
  have hA : ∀ q : Nat, s.heap.size ≤ q → A q := fun q h => by rw [← hAe]; exact Or.inr h
  have hS : va_S A s.heap s.heap [] := va_S.rf
  have hP : va_P (dC, dI) vwCl [(h0, .inr (11, mo0 fa0)), ((fa0 0), .inl (cI, 3000, .inl (fun _ => 0)))] s.heap := hP
  obtain ⟨H, hH⟩ : ∃ H, H = s.heap := ⟨_, rfl⟩
  rw [← hH] at hP
  have hS : va_S A s.heap H [] := by rw [hH]; exact hS
  have hl := lv_entry ([.ref h0, .int x0, .int x1, .int x2, .int x3, .int x4]) (n := 6) (Nat.le_of_ble_eq_true rfl)
  rw [lg_entry_eq]
  generalize (lg_sl ([.ref h0, .int x0, .int x1, .int x2, .int x3, .int x4]) ++ List.replicate (6 - (lg_sl ([.ref h0, .int x0, .int x1, .int x2, .int x3, .int x4])).length) Slot.unset).toArray = ls at hl ⊢
  have hl : lv_has ls 6 [(0, .ref h0), (1, .int x0), (2, .int x1), (3, .int x2), (4, .int x3), (5, .int x4)] := hl
  refine pq_heap hH ?_
  refine lv_aload_n hx hb dX11_feed_0 rfl (lv_at hl 0 rfl) ?_
  refine va_get (D := (dC, dI)) (ci := 11) (v := .int 0) (C := RX11) (T := TX11) (N := 122) hx hb hts iq_X11_feed_X11 hown hK hP 0 rfl rfl 1 (by decide) (hts (Cond.fieldLink RX11 7 "CodePressModel" "taped" "I") (List.mem_of_getElem? (i := 1) rfl)) (fun _ h9 => h9) rfl dX11_feed_1 ?_
  refine lv_sipush (v := 2980) hx hb dX11_feed_4 (by decide) ?_
  refine lv_icmp_le (tgt := 12) hx hb dX11_feed_7 (by decide) (fun _ => ?_) (fun c_ => absurd (by decide) c_)
  refine lv_aload_n hx hb dX11_feed_12 rfl (lv_at hl 0 rfl) ?_
  refine lv_iload_n hx hb dX11_feed_13 rfl (lv_at hl 1 rfl) ?_
  refine pq_cv (wr := []) (W1 := (fun u => [(h0, .inr (11, mo4 fa0)), ((fa0 0), .inl (cI, 3000, .inl (upd (upd (upd (upd (fun _ => 0) 0 ((x0 >>> (24 &&& 31)) &&& 255)) 1 ((x0 >>> (16 &&& 31)) &&& 255)) 2 ((x0 >>> (8 &&& 31)) &&& 255)) 3 ((x0 >>> (0 &&& 31)) &&& 255))))])) (va_runV (As := [.int x0]) (rest := []) ⟨hx, hb, hml, hown, hts⟩ (cq_X11_four l dC dI cB cI cJ cZ h0 fa0 x0 H.size) (cwV 1 hts gq_X11_feed_X11_four_11 rfl rfl rfl (by decide +kernel) ⟨(by decide +kernel), (by decide +kernel)⟩) ⟨pq_blind, va_recv hK hP (ci := 11) (q0 := 0) rfl rfl, pq_pre hK hP hD [0, 1] rfl rfl⟩ rfl rfl hl.1 rfl (lv_room (Nat.le_of_ble_eq_true rfl)) dX11_feed_14 ⟨(by decide +kernel), (by decide +kernel)⟩) hP hD hS hA [0, 1] [] rfl rfl rfl (by decide) (fun u1 H locs hw hP hD hS => ?_)
  have hR9 : pq_R (dC, dI) vwCl A [(h0, .inr (11, mo4 fa0)), ((fa0 0), .inl (cI, 3000, .inl (upd (upd (upd (upd (fun _ => 0) 0 ((x0 >>> (24 &&& 31)) &&& 255)) 1 ((x0 >>> (16 &&& 31)) &&& 255)) 2 ((x0 >>> (8 &&& 31)) &&& 255)) 3 ((x0 >>> (0 &&& 31)) &&& 255))))] H := ⟨hP, hD⟩
  have hP := hR9.1
  have hD := hR9.2
  refine W.widen (k := 0) (n := 0) (by decide +kernel) (by decide +kernel) ?_
  refine lv_aload_n hx hb dX11_feed_17 rfl (lv_at hl 0 rfl) ?_
  refine lv_iload_n hx hb dX11_feed_18 rfl (lv_at hl 2 rfl) ?_
  refine pq_cv (wr := []) (W1 := (fun u => [(h0, .inr (11, mo8 fa0)), ((fa0 0), .inl (cI, 3000, .inl (upd (upd (upd (upd (upd (upd (upd (upd (fun _ => 0) 0 ((x0 >>> (24 &&& 31)) &&& 255)) 1 ((x0 >>> (16 &&& 31)) &&& 255)) 2 ((x0 >>> (8 &&& 31)) &&& 255)) 3 ((x0 >>> (0 &&& 31)) &&& 255)) 4 ((x1 >>> (24 &&& 31)) &&& 255)) 5 ((x1 >>> (16 &&& 31)) &&& 255)) 6 ((x1 >>> (8 &&& 31)) &&& 255)) 7 ((x1 >>> (0 &&& 31)) &&& 255))))])) (va_runV (As := [.int x1]) (rest := []) ⟨hx, hb, hml, hown, hts⟩ (cq_X11_four_1 l dC dI cB cI cJ cZ h0 fa0 x1 (upd (upd (upd (upd (fun _ => 0) 0 ((x0 >>> (24 &&& 31)) &&& 255)) 1 ((x0 >>> (16 &&& 31)) &&& 255)) 2 ((x0 >>> (8 &&& 31)) &&& 255)) 3 ((x0 >>> (0 &&& 31)) &&& 255)) H.size) (cwV 1 hts gq_X11_feed_X11_four_1_11 rfl rfl rfl (by decide +kernel) ⟨(by decide +kernel), (by decide +kernel)⟩) ⟨pq_blind, va_recv hK hP (ci := 11) (q0 := 0) rfl rfl, pq_pre hK hP hD [0, 1] rfl rfl⟩ rfl rfl hl.1 rfl (lv_room (Nat.le_of_ble_eq_true rfl)) dX11_feed_19 ⟨(by decide +kernel), (by decide +kernel)⟩) hP hD hS hA [0, 1] [] rfl rfl rfl (by decide) (fun u2 H locs hw hP hD hS => ?_)
  have hR9 : pq_R (dC, dI) vwCl A [(h0, .inr (11, mo8 fa0)), ((fa0 0), .inl (cI, 3000, .inl (upd (upd (upd (upd (upd (upd (upd (upd (fun _ => 0) 0 ((x0 >>> (24 &&& 31)) &&& 255)) 1 ((x0 >>> (16 &&& 31)) &&& 255)) 2 ((x0 >>> (8 &&& 31)) &&& 255)) 3 ((x0 >>> (0 &&& 31)) &&& 255)) 4 ((x1 >>> (24 &&& 31)) &&& 255)) 5 ((x1 >>> (16 &&& 31)) &&& 255)) 6 ((x1 >>> (8 &&& 31)) &&& 255)) 7 ((x1 >>> (0 &&& 31)) &&& 255))))] H := ⟨hP, hD⟩
  have hP := hR9.1
  have hD := hR9.2
  refine W.widen (k := 0) (n := 0) (by decide +kernel) (by decide +kernel) ?_
  refine lv_aload_n hx hb dX11_feed_22 rfl (lv_at hl 0 rfl) ?_
  refine lv_iload_n hx hb dX11_feed_23 rfl (lv_at hl 3 rfl) ?_
  refine pq_cv (wr := []) (W1 := (fun u => [(h0, .inr (11, mo12 fa0)), ((fa0 0), .inl (cI, 3000, .inl (upd (upd (upd (upd (upd (upd (upd (upd (upd (upd (upd (upd (fun _ => 0) 0 ((x0 >>> (24 &&& 31)) &&& 255)) 1 ((x0 >>> (16 &&& 31)) &&& 255)) 2 ((x0 >>> (8 &&& 31)) &&& 255)) 3 ((x0 >>> (0 &&& 31)) &&& 255)) 4 ((x1 >>> (24 &&& 31)) &&& 255)) 5 ((x1 >>> (16 &&& 31)) &&& 255)) 6 ((x1 >>> (8 &&& 31)) &&& 255)) 7 ((x1 >>> (0 &&& 31)) &&& 255)) 8 ((x2 >>> (24 &&& 31)) &&& 255)) 9 ((x2 >>> (16 &&& 31)) &&& 255)) 10 ((x2 >>> (8 &&& 31)) &&& 255)) 11 ((x2 >>> (0 &&& 31)) &&& 255))))])) (va_runV (As := [.int x2]) (rest := []) ⟨hx, hb, hml, hown, hts⟩ (cq_X11_four_2 l dC dI cB cI cJ cZ h0 fa0 x2 (upd (upd (upd (upd (upd (upd (upd (upd (fun _ => 0) 0 ((x0 >>> (24 &&& 31)) &&& 255)) 1 ((x0 >>> (16 &&& 31)) &&& 255)) 2 ((x0 >>> (8 &&& 31)) &&& 255)) 3 ((x0 >>> (0 &&& 31)) &&& 255)) 4 ((x1 >>> (24 &&& 31)) &&& 255)) 5 ((x1 >>> (16 &&& 31)) &&& 255)) 6 ((x1 >>> (8 &&& 31)) &&& 255)) 7 ((x1 >>> (0 &&& 31)) &&& 255)) H.size) (cwV 1 hts gq_X11_feed_X11_four_2_11 rfl rfl rfl (by decide +kernel) ⟨(by decide +kernel), (by decide +kernel)⟩) ⟨pq_blind, va_recv hK hP (ci := 11) (q0 := 0) rfl rfl, pq_pre hK hP hD [0, 1] rfl rfl⟩ rfl rfl hl.1 rfl (lv_room (Nat.le_of_ble_eq_true rfl)) dX11_feed_24 ⟨(by decide +kernel), (by decide +kernel)⟩) hP hD hS hA [0, 1] [] rfl rfl rfl (by decide) (fun u3 H locs hw hP hD hS => ?_)
  have hR9 : pq_R (dC, dI) vwCl A [(h0, .inr (11, mo12 fa0)), ((fa0 0), .inl (cI, 3000, .inl (upd (upd (upd (upd (upd (upd (upd (upd (upd (upd (upd (upd (fun _ => 0) 0 ((x0 >>> (24 &&& 31)) &&& 255)) 1 ((x0 >>> (16 &&& 31)) &&& 255)) 2 ((x0 >>> (8 &&& 31)) &&& 255)) 3 ((x0 >>> (0 &&& 31)) &&& 255)) 4 ((x1 >>> (24 &&& 31)) &&& 255)) 5 ((x1 >>> (16 &&& 31)) &&& 255)) 6 ((x1 >>> (8 &&& 31)) &&& 255)) 7 ((x1 >>> (0 &&& 31)) &&& 255)) 8 ((x2 >>> (24 &&& 31)) &&& 255)) 9 ((x2 >>> (16 &&& 31)) &&& 255)) 10 ((x2 >>> (8 &&& 31)) &&& 255)) 11 ((x2 >>> (0 &&& 31)) &&& 255))))] H := ⟨hP, hD⟩
  have hP := hR9.1
  have hD := hR9.2
  refine W.widen (k := 0) (n := 0) (by decide +kernel) (by decide +kernel) ?_
  refine lv_aload_n hx hb dX11_feed_27 rfl (lv_at hl 0 rfl) ?_
  refine lv_iload hx hb dX11_feed_28 (lv_at hl 4 rfl) ?_
  refine pq_cv (wr := []) (W1 := (fun u => [(h0, .inr (11, mo16 fa0)), ((fa0 0), .inl (cI, 3000, .inl (upd (upd (upd (upd (upd (upd (upd (upd (upd (upd (upd (upd (upd (upd (upd (upd (fun _ => 0) 0 ((x0 >>> (24 &&& 31)) &&& 255)) 1 ((x0 >>> (16 &&& 31)) &&& 255)) 2 ((x0 >>> (8 &&& 31)) &&& 255)) 3 ((x0 >>> (0 &&& 31)) &&& 255)) 4 ((x1 >>> (24 &&& 31)) &&& 255)) 5 ((x1 >>> (16 &&& 31)) &&& 255)) 6 ((x1 >>> (8 &&& 31)) &&& 255)) 7 ((x1 >>> (0 &&& 31)) &&& 255)) 8 ((x2 >>> (24 &&& 31)) &&& 255)) 9 ((x2 >>> (16 &&& 31)) &&& 255)) 10 ((x2 >>> (8 &&& 31)) &&& 255)) 11 ((x2 >>> (0 &&& 31)) &&& 255)) 12 ((x3 >>> (24 &&& 31)) &&& 255)) 13 ((x3 >>> (16 &&& 31)) &&& 255)) 14 ((x3 >>> (8 &&& 31)) &&& 255)) 15 ((x3 >>> (0 &&& 31)) &&& 255))))])) (va_runV (As := [.int x3]) (rest := []) ⟨hx, hb, hml, hown, hts⟩ (cq_X11_four_3 l dC dI cB cI cJ cZ h0 fa0 x3 (upd (upd (upd (upd (upd (upd (upd (upd (upd (upd (upd (upd (fun _ => 0) 0 ((x0 >>> (24 &&& 31)) &&& 255)) 1 ((x0 >>> (16 &&& 31)) &&& 255)) 2 ((x0 >>> (8 &&& 31)) &&& 255)) 3 ((x0 >>> (0 &&& 31)) &&& 255)) 4 ((x1 >>> (24 &&& 31)) &&& 255)) 5 ((x1 >>> (16 &&& 31)) &&& 255)) 6 ((x1 >>> (8 &&& 31)) &&& 255)) 7 ((x1 >>> (0 &&& 31)) &&& 255)) 8 ((x2 >>> (24 &&& 31)) &&& 255)) 9 ((x2 >>> (16 &&& 31)) &&& 255)) 10 ((x2 >>> (8 &&& 31)) &&& 255)) 11 ((x2 >>> (0 &&& 31)) &&& 255)) H.size) (cwV 1 hts gq_X11_feed_X11_four_3_11 rfl rfl rfl (by decide +kernel) ⟨(by decide +kernel), (by decide +kernel)⟩) ⟨pq_blind, va_recv hK hP (ci := 11) (q0 := 0) rfl rfl, pq_pre hK hP hD [0, 1] rfl rfl⟩ rfl rfl hl.1 rfl (lv_room (Nat.le_of_ble_eq_true rfl)) dX11_feed_30 ⟨(by decide +kernel), (by decide +kernel)⟩) hP hD hS hA [0, 1] [] rfl rfl rfl (by decide) (fun u4 H locs hw hP hD hS => ?_)
  have hR9 : pq_R (dC, dI) vwCl A [(h0, .inr (11, mo16 fa0)), ((fa0 0), .inl (cI, 3000, .inl (upd (upd (upd (upd (upd (upd (upd (upd (upd (upd (upd (upd (upd (upd (upd (upd (fun _ => 0) 0 ((x0 >>> (24 &&& 31)) &&& 255)) 1 ((x0 >>> (16 &&& 31)) &&& 255)) 2 ((x0 >>> (8 &&& 31)) &&& 255)) 3 ((x0 >>> (0 &&& 31)) &&& 255)) 4 ((x1 >>> (24 &&& 31)) &&& 255)) 5 ((x1 >>> (16 &&& 31)) &&& 255)) 6 ((x1 >>> (8 &&& 31)) &&& 255)) 7 ((x1 >>> (0 &&& 31)) &&& 255)) 8 ((x2 >>> (24 &&& 31)) &&& 255)) 9 ((x2 >>> (16 &&& 31)) &&& 255)) 10 ((x2 >>> (8 &&& 31)) &&& 255)) 11 ((x2 >>> (0 &&& 31)) &&& 255)) 12 ((x3 >>> (24 &&& 31)) &&& 255)) 13 ((x3 >>> (16 &&& 31)) &&& 255)) 14 ((x3 >>> (8 &&& 31)) &&& 255)) 15 ((x3 >>> (0 &&& 31)) &&& 255))))] H := ⟨hP, hD⟩
  have hP := hR9.1
  have hD := hR9.2
  refine W.widen (k := 0) (n := 0) (by decide +kernel) (by decide +kernel) ?_
  refine lv_aload_n hx hb dX11_feed_33 rfl (lv_at hl 0 rfl) ?_
  refine lv_iload hx hb dX11_feed_34 (lv_at hl 5 rfl) ?_
  refine pq_cv (wr := []) (W1 := (fun u => [(h0, .inr (11, mo20 fa0)), ((fa0 0), .inl (cI, 3000, .inl (upd (upd (upd (upd (upd (upd (upd (upd (upd (upd (upd (upd (upd (upd (upd (upd (upd (upd (upd (upd (fun _ => 0) 0 ((x0 >>> (24 &&& 31)) &&& 255)) 1 ((x0 >>> (16 &&& 31)) &&& 255)) 2 ((x0 >>> (8 &&& 31)) &&& 255)) 3 ((x0 >>> (0 &&& 31)) &&& 255)) 4 ((x1 >>> (24 &&& 31)) &&& 255)) 5 ((x1 >>> (16 &&& 31)) &&& 255)) 6 ((x1 >>> (8 &&& 31)) &&& 255)) 7 ((x1 >>> (0 &&& 31)) &&& 255)) 8 ((x2 >>> (24 &&& 31)) &&& 255)) 9 ((x2 >>> (16 &&& 31)) &&& 255)) 10 ((x2 >>> (8 &&& 31)) &&& 255)) 11 ((x2 >>> (0 &&& 31)) &&& 255)) 12 ((x3 >>> (24 &&& 31)) &&& 255)) 13 ((x3 >>> (16 &&& 31)) &&& 255)) 14 ((x3 >>> (8 &&& 31)) &&& 255)) 15 ((x3 >>> (0 &&& 31)) &&& 255)) 16 ((x4 >>> (24 &&& 31)) &&& 255)) 17 ((x4 >>> (16 &&& 31)) &&& 255)) 18 ((x4 >>> (8 &&& 31)) &&& 255)) 19 ((x4 >>> (0 &&& 31)) &&& 255))))])) (va_runV (As := [.int x4]) (rest := []) ⟨hx, hb, hml, hown, hts⟩ (cq_X11_four_4 l dC dI cB cI cJ cZ h0 fa0 x4 (upd (upd (upd (upd (upd (upd (upd (upd (upd (upd (upd (upd (upd (upd (upd (upd (fun _ => 0) 0 ((x0 >>> (24 &&& 31)) &&& 255)) 1 ((x0 >>> (16 &&& 31)) &&& 255)) 2 ((x0 >>> (8 &&& 31)) &&& 255)) 3 ((x0 >>> (0 &&& 31)) &&& 255)) 4 ((x1 >>> (24 &&& 31)) &&& 255)) 5 ((x1 >>> (16 &&& 31)) &&& 255)) 6 ((x1 >>> (8 &&& 31)) &&& 255)) 7 ((x1 >>> (0 &&& 31)) &&& 255)) 8 ((x2 >>> (24 &&& 31)) &&& 255)) 9 ((x2 >>> (16 &&& 31)) &&& 255)) 10 ((x2 >>> (8 &&& 31)) &&& 255)) 11 ((x2 >>> (0 &&& 31)) &&& 255)) 12 ((x3 >>> (24 &&& 31)) &&& 255)) 13 ((x3 >>> (16 &&& 31)) &&& 255)) 14 ((x3 >>> (8 &&& 31)) &&& 255)) 15 ((x3 >>> (0 &&& 31)) &&& 255)) H.size) (cwV 1 hts gq_X11_feed_X11_four_4_11 rfl rfl rfl (by decide +kernel) ⟨(by decide +kernel), (by decide +kernel)⟩) ⟨pq_blind, va_recv hK hP (ci := 11) (q0 := 0) rfl rfl, pq_pre hK hP hD [0, 1] rfl rfl⟩ rfl rfl hl.1 rfl (lv_room (Nat.le_of_ble_eq_true rfl)) dX11_feed_36 ⟨(by decide +kernel), (by decide +kernel)⟩) hP hD hS hA [0, 1] [] rfl rfl rfl (by decide) (fun u5 H locs hw hP hD hS => ?_)
  have hR9 : pq_R (dC, dI) vwCl A [(h0, .inr (11, mo20 fa0)), ((fa0 0), .inl (cI, 3000, .inl (upd (upd (upd (upd (upd (upd (upd (upd (upd (upd (upd (upd (upd (upd (upd (upd (upd (upd (upd (upd (fun _ => 0) 0 ((x0 >>> (24 &&& 31)) &&& 255)) 1 ((x0 >>> (16 &&& 31)) &&& 255)) 2 ((x0 >>> (8 &&& 31)) &&& 255)) 3 ((x0 >>> (0 &&& 31)) &&& 255)) 4 ((x1 >>> (24 &&& 31)) &&& 255)) 5 ((x1 >>> (16 &&& 31)) &&& 255)) 6 ((x1 >>> (8 &&& 31)) &&& 255)) 7 ((x1 >>> (0 &&& 31)) &&& 255)) 8 ((x2 >>> (24 &&& 31)) &&& 255)) 9 ((x2 >>> (16 &&& 31)) &&& 255)) 10 ((x2 >>> (8 &&& 31)) &&& 255)) 11 ((x2 >>> (0 &&& 31)) &&& 255)) 12 ((x3 >>> (24 &&& 31)) &&& 255)) 13 ((x3 >>> (16 &&& 31)) &&& 255)) 14 ((x3 >>> (8 &&& 31)) &&& 255)) 15 ((x3 >>> (0 &&& 31)) &&& 255)) 16 ((x4 >>> (24 &&& 31)) &&& 255)) 17 ((x4 >>> (16 &&& 31)) &&& 255)) 18 ((x4 >>> (8 &&& 31)) &&& 255)) 19 ((x4 >>> (0 &&& 31)) &&& 255))))] H := ⟨hP, hD⟩
  have hP := hR9.1
  have hD := hR9.2
  refine W.widen (k := 0) (n := 0) (by decide +kernel) (by decide +kernel) ?_
  refine lv_aload_n hx hb dX11_feed_39 rfl (lv_at hl 0 rfl) ?_
  refine va_get (D := (dC, dI)) (ci := 11) (v := .int 20) (C := RX11) (T := TX11) (N := 122) hx hb hts iq_X11_feed_X11 hown hK hP 0 rfl rfl 1 (by decide) (hts (Cond.fieldLink RX11 7 "CodePressModel" "taped" "I") (List.mem_of_getElem? (i := 1) rfl)) (fun _ h9 => h9) rfl dX11_feed_40 ?_
  have hP9 := pq_P.pick (wc := [(h0, .inr (11, mo20 fa0)), ((fa0 0), .inl (cI, 3000, .inl (upd (upd (upd (upd (upd (upd (upd (upd (upd (upd (upd (upd (upd (upd (upd (upd (upd (upd (upd (upd (fun _ => 0) 0 ((x0 >>> (24 &&& 31)) &&& 255)) 1 ((x0 >>> (16 &&& 31)) &&& 255)) 2 ((x0 >>> (8 &&& 31)) &&& 255)) 3 ((x0 >>> (0 &&& 31)) &&& 255)) 4 ((x1 >>> (24 &&& 31)) &&& 255)) 5 ((x1 >>> (16 &&& 31)) &&& 255)) 6 ((x1 >>> (8 &&& 31)) &&& 255)) 7 ((x1 >>> (0 &&& 31)) &&& 255)) 8 ((x2 >>> (24 &&& 31)) &&& 255)) 9 ((x2 >>> (16 &&& 31)) &&& 255)) 10 ((x2 >>> (8 &&& 31)) &&& 255)) 11 ((x2 >>> (0 &&& 31)) &&& 255)) 12 ((x3 >>> (24 &&& 31)) &&& 255)) 13 ((x3 >>> (16 &&& 31)) &&& 255)) 14 ((x3 >>> (8 &&& 31)) &&& 255)) 15 ((x3 >>> (0 &&& 31)) &&& 255)) 16 ((x4 >>> (24 &&& 31)) &&& 255)) 17 ((x4 >>> (16 &&& 31)) &&& 255)) 18 ((x4 >>> (8 &&& 31)) &&& 255)) 19 ((x4 >>> (0 &&& 31)) &&& 255))))]) hP [0, 1] rfl
  have hD9 := hD.sub (ws' := [(h0, .inr (11, mo20 fa0)), ((fa0 0), .inl (cI, 3000, .inl (upd (upd (upd (upd (upd (upd (upd (upd (upd (upd (upd (upd (upd (upd (upd (upd (upd (upd (upd (upd (fun _ => 0) 0 ((x0 >>> (24 &&& 31)) &&& 255)) 1 ((x0 >>> (16 &&& 31)) &&& 255)) 2 ((x0 >>> (8 &&& 31)) &&& 255)) 3 ((x0 >>> (0 &&& 31)) &&& 255)) 4 ((x1 >>> (24 &&& 31)) &&& 255)) 5 ((x1 >>> (16 &&& 31)) &&& 255)) 6 ((x1 >>> (8 &&& 31)) &&& 255)) 7 ((x1 >>> (0 &&& 31)) &&& 255)) 8 ((x2 >>> (24 &&& 31)) &&& 255)) 9 ((x2 >>> (16 &&& 31)) &&& 255)) 10 ((x2 >>> (8 &&& 31)) &&& 255)) 11 ((x2 >>> (0 &&& 31)) &&& 255)) 12 ((x3 >>> (24 &&& 31)) &&& 255)) 13 ((x3 >>> (16 &&& 31)) &&& 255)) 14 ((x3 >>> (8 &&& 31)) &&& 255)) 15 ((x3 >>> (0 &&& 31)) &&& 255)) 16 ((x4 >>> (24 &&& 31)) &&& 255)) 17 ((x4 >>> (16 &&& 31)) &&& 255)) 18 ((x4 >>> (8 &&& 31)) &&& 255)) 19 ((x4 >>> (0 &&& 31)) &&& 255))))]) [0, 1] (by decide) rfl
  refine W.widen (k := 0) (n := 0) (by decide +kernel) (by decide +kernel) ?_
  exact W.iret (v := 20) hx hb hr (fun t ht hW => ⟨⟨20, sq_u [] [], rfl, rfl, pq_B.of ht hP9 hD9⟩, hS.F ht⟩) hS.2.2 dX11_feed_43
def wq_X11_token_r1 : List Cond := [Cond.fieldLink RX11 25 "CodePressModel" "sort" "[I", Cond.fieldLink RX11 260 "CodePressModel" "tokens" "I", Cond.fieldLink RX11 28 "CodePressModel" "at" "[I", Cond.fieldLink RX11 31 "CodePressModel" "value" "[I", Cond.fieldLink RX11 34 "CodePressModel" "name" "[J"]
def wq_X11_token : List Cond := Cond.code yX11_token cX11_token 4 none :: (wq_X11_token_r1 ++ wsX110)
theorem iq_X11_token_X11 : ∀ w ∈ wsX110, w ∈ wq_X11_token := fun _ h => List.mem_cons_of_mem _ (List.mem_append_right _ h)
set_option maxHeartbeats 4000000 in
set_option maxRecDepth 100000 in
theorem cq_X11_token (l : Launch) (dC : Nat → ClassId) (dI : Nat → Nat → Nat) (cB cI cJ cZ : ClassId) (h0 : Nat) (fa0 : Nat → Nat) (sz : Nat) : Met l yX11_token wq_X11_token ({ frames := 0, cells := 0, slots := 0, locals := 0 }) (va_Pc [.ref h0, .int 0, .int 0, .int 0] (pq_W (dC, dI) vwCl (tyQ cB cI cJ cZ) [(h0, .inr (11, mo21 fa0)), ((fa0 2), .inl (cI, 3002, .inl (fun _ => 0))), ((fa0 3), .inl (cI, 3002, .inl (fun _ => 0))), ((fa0 4), .inl (cI, 3002, .inl (fun _ => 0))), ((fa0 5), .inl (cJ, 3002, .inr (.inl (fun _ => 0))))] sz)) (va_Qv (fun (_ : SQ) => True) (fun u => pq_B (dC, dI) vwCl [(h0, .inr (11, mo22 fa0)), ((fa0 2), .inl (cI, 3002, .inl (upd (fun _ => 0) 0 0))), ((fa0 3), .inl (cI, 3002, .inl (upd (fun _ => 0) 0 0))), ((fa0 4), .inl (cI, 3002, .inl (upd (fun _ => 0) 0 0))), ((fa0 5), .inl (cJ, 3002, .inr (.inl (vp_updL (fun _ => 0) 0 0))))] (va_A [(h0, .inr (11, mo21 fa0)), ((fa0 2), .inl (cI, 3002, .inl (fun _ => 0))), ((fa0 3), .inl (cI, 3002, .inl (fun _ => 0))), ((fa0 4), .inl (cI, 3002, .inl (fun _ => 0))), ((fa0 5), .inl (cJ, 3002, .inr (.inl (fun _ => 0))))] sz)) (va_A [(h0, .inr (11, mo21 fa0)), ((fa0 2), .inl (cI, 3002, .inl (fun _ => 0))), ((fa0 3), .inl (cI, 3002, .inl (fun _ => 0))), ((fa0 4), .inl (cI, 3002, .inl (fun _ => 0))), ((fa0 5), .inl (cJ, 3002, .inr (.inl (fun _ => 0))))] sz)) 0 0 (va_A [(h0, .inr (11, mo21 fa0)), ((fa0 2), .inl (cI, 3002, .inl (fun _ => 0))), ((fa0 3), .inl (cI, 3002, .inl (fun _ => 0))), ((fa0 4), .inl (cI, 3002, .inl (fun _ => 0))), ((fa0 5), .inl (cJ, 3002, .inr (.inl (fun _ => 0))))] sz) := by
  refine Met.ofW (cc := cX11_token) (maxL := 4) (ret := none) (by decide) rfl ?_
  intro p e s m args below meth c s₁ B hml hv
  obtain ⟨rfl, hsz, hP, hK, hD0⟩ := hv
  have hx := B.exec
  have hb := B.bytes
  have hr := B.returns
  have hts := atoms_spec (ws := wq_X11_token) B.pre
  have hown : s.vm.findClass RX11 = some m.cls := findClass_of_methodNamed B.named
  have hlocks := B.notSynchronized
  subst hsz
  have hD := hD0.self (sz := s.heap.size)
  generalize hAe : va_A [(h0, .inr (11, mo21 fa0)), ((fa0 2), .inl (cI, 3002, .inl (fun _ => 0))), ((fa0 3), .inl (cI, 3002, .inl (fun _ => 0))), ((fa0 4), .inl (cI, 3002, .inl (fun _ => 0))), ((fa0 5), .inl (cJ, 3002, .inr (.inl (fun _ => 0))))] s.heap.size = A at hD ⊢
  have hA : ∀ q : Nat, s.heap.size ≤ q → A q := fun q h => by rw [← hAe]; exact Or.inr h
  have hS : va_S A s.heap s.heap [] := va_S.rf
  have hP : va_P (dC, dI) vwCl [(h0, .inr (11, mo21 fa0)), ((fa0 2), .inl (cI, 3002, .inl (fun _ => 0))), ((fa0 3), .inl (cI, 3002, .inl (fun _ => 0))), ((fa0 4), .inl (cI, 3002, .inl (fun _ => 0))), ((fa0 5), .inl (cJ, 3002, .inr (.inl (fun _ => 0))))] s.heap := hP
  obtain ⟨H, hH⟩ : ∃ H, H = s.heap := ⟨_, rfl⟩
  rw [← hH] at hP
  have hS : va_S A s.heap H [] := by rw [hH]; exact hS
  have hl := lv_entry ([.ref h0, .int 0, .int 0, .int 0]) (n := 4) (Nat.le_of_ble_eq_true rfl)
  rw [lg_entry_eq]
  generalize (lg_sl ([.ref h0, .int 0, .int 0, .int 0]) ++ List.replicate (4 - (lg_sl ([.ref h0, .int 0, .int 0, .int 0])).length) Slot.unset).toArray = ls at hl ⊢
  have hl : lv_has ls 4 [(0, .ref h0), (1, .int 0), (2, .int 0), (3, .int 0)] := hl
  refine pq_heap hH ?_
  refine lv_aload_n hx hb dX11_token_0 rfl (lv_at hl 0 rfl) ?_
  refine va_get (D := (dC, dI)) (ci := 11) (v := .ref (fa0 2)) (C := RX11) (T := TX11) (N := 122) hx hb hts iq_X11_token_X11 hown hK hP 0 rfl rfl 3 (by decide) (hts (Cond.fieldLink RX11 25 "CodePressModel" "sort" "[I") (List.mem_of_getElem? (i := 1) rfl)) (fun _ h9 => h9) rfl dX11_token_1 ?_
  refine lv_aload_n hx hb dX11_token_4 rfl (lv_at hl 0 rfl) ?_
  refine va_get (D := (dC, dI)) (ci := 11) (v := .int 0) (C := RX11) (T := TX11) (N := 122) hx hb hts iq_X11_token_X11 hown hK hP 0 rfl rfl 7 (by decide) (hts (Cond.fieldLink RX11 260 "CodePressModel" "tokens" "I") (List.mem_of_getElem? (i := 2) rfl)) (fun _ h9 => h9) rfl dX11_token_5 ?_
  refine lv_iload_n hx hb dX11_token_8 rfl (lv_at hl 1 rfl) ?_
  refine va_iast hx hb hK hP hD hS 1 1 rfl rfl (pq_in (by decide)) dX11_token_9 (fun H locs hP hD hS => ?_)
  have hR9 : pq_R (dC, dI) vwCl A [(h0, .inr (11, mo21 fa0)), ((fa0 2), .inl (cI, 3002, .inl (upd (fun _ => 0) 0 0))), ((fa0 3), .inl (cI, 3002, .inl (fun _ => 0))), ((fa0 4), .inl (cI, 3002, .inl (fun _ => 0))), ((fa0 5), .inl (cJ, 3002, .inr (.inl (fun _ => 0))))] H := ⟨hP, hD⟩
  have hP := hR9.1
  have hD := hR9.2
  refine lv_aload_n hx hb dX11_token_10 rfl (lv_at hl 0 rfl) ?_
  refine va_get (D := (dC, dI)) (ci := 11) (v := .ref (fa0 3)) (C := RX11) (T := TX11) (N := 122) hx hb hts iq_X11_token_X11 hown hK hP 0 rfl rfl 4 (by decide) (hts (Cond.fieldLink RX11 28 "CodePressModel" "at" "[I") (List.mem_of_getElem? (i := 3) rfl)) (fun _ h9 => h9) rfl dX11_token_11 ?_
  refine lv_aload_n hx hb dX11_token_14 rfl (lv_at hl 0 rfl) ?_
  refine va_get (D := (dC, dI)) (ci := 11) (v := .int 0) (C := RX11) (T := TX11) (N := 122) hx hb hts iq_X11_token_X11 hown hK hP 0 rfl rfl 7 (by decide) (hts (Cond.fieldLink RX11 260 "CodePressModel" "tokens" "I") (List.mem_of_getElem? (i := 2) rfl)) (fun _ h9 => h9) rfl dX11_token_15 ?_
  refine lv_iload_n hx hb dX11_token_18 rfl (lv_at hl 2 rfl) ?_
  refine va_iast hx hb hK hP hD hS 2 1 rfl rfl (pq_in (by decide)) dX11_token_19 (fun H locs hP hD hS => ?_)
  have hR9 : pq_R (dC, dI) vwCl A [(h0, .inr (11, mo21 fa0)), ((fa0 2), .inl (cI, 3002, .inl (upd (fun _ => 0) 0 0))), ((fa0 3), .inl (cI, 3002, .inl (upd (fun _ => 0) 0 0))), ((fa0 4), .inl (cI, 3002, .inl (fun _ => 0))), ((fa0 5), .inl (cJ, 3002, .inr (.inl (fun _ => 0))))] H := ⟨hP, hD⟩
  have hP := hR9.1
  have hD := hR9.2
  refine lv_aload_n hx hb dX11_token_20 rfl (lv_at hl 0 rfl) ?_
  refine va_get (D := (dC, dI)) (ci := 11) (v := .ref (fa0 4)) (C := RX11) (T := TX11) (N := 122) hx hb hts iq_X11_token_X11 hown hK hP 0 rfl rfl 5 (by decide) (hts (Cond.fieldLink RX11 31 "CodePressModel" "value" "[I") (List.mem_of_getElem? (i := 4) rfl)) (fun _ h9 => h9) rfl dX11_token_21 ?_
  refine lv_aload_n hx hb dX11_token_24 rfl (lv_at hl 0 rfl) ?_
  refine va_get (D := (dC, dI)) (ci := 11) (v := .int 0) (C := RX11) (T := TX11) (N := 122) hx hb hts iq_X11_token_X11 hown hK hP 0 rfl rfl 7 (by decide) (hts (Cond.fieldLink RX11 260 "CodePressModel" "tokens" "I") (List.mem_of_getElem? (i := 2) rfl)) (fun _ h9 => h9) rfl dX11_token_25 ?_
  refine lv_iload_n hx hb dX11_token_28 rfl (lv_at hl 3 rfl) ?_
  refine va_iast hx hb hK hP hD hS 3 1 rfl rfl (pq_in (by decide)) dX11_token_29 (fun H locs hP hD hS => ?_)
  have hR9 : pq_R (dC, dI) vwCl A [(h0, .inr (11, mo21 fa0)), ((fa0 2), .inl (cI, 3002, .inl (upd (fun _ => 0) 0 0))), ((fa0 3), .inl (cI, 3002, .inl (upd (fun _ => 0) 0 0))), ((fa0 4), .inl (cI, 3002, .inl (upd (fun _ => 0) 0 0))), ((fa0 5), .inl (cJ, 3002, .inr (.inl (fun _ => 0))))] H := ⟨hP, hD⟩
  have hP := hR9.1
  have hD := hR9.2
  refine lv_aload_n hx hb dX11_token_30 rfl (lv_at hl 0 rfl) ?_
  refine va_get (D := (dC, dI)) (ci := 11) (v := .ref (fa0 5)) (C := RX11) (T := TX11) (N := 122) hx hb hts iq_X11_token_X11 hown hK hP 0 rfl rfl 6 (by decide) (hts (Cond.fieldLink RX11 34 "CodePressModel" "name" "[J") (List.mem_of_getElem? (i := 5) rfl)) (fun _ h9 => h9) rfl dX11_token_31 ?_
  refine lv_aload_n hx hb dX11_token_34 rfl (lv_at hl 0 rfl) ?_
  refine va_get (D := (dC, dI)) (ci := 11) (v := .int 0) (C := RX11) (T := TX11) (N := 122) hx hb hts iq_X11_token_X11 hown hK hP 0 rfl rfl 7 (by decide) (hts (Cond.fieldLink RX11 260 "CodePressModel" "tokens" "I") (List.mem_of_getElem? (i := 2) rfl)) (fun _ h9 => h9) rfl dX11_token_35 ?_
  refine lv_lconst (v := 0) hx hb dX11_token_38 (by decide) ?_
  refine va_last hx hb hK hP hD hS 4 2 rfl rfl (pq_in (by decide)) dX11_token_39 (fun H locs hP hD hS => ?_)
  have hR9 : pq_R (dC, dI) vwCl A [(h0, .inr (11, mo21 fa0)), ((fa0 2), .inl (cI, 3002, .inl (upd (fun _ => 0) 0 0))), ((fa0 3), .inl (cI, 3002, .inl (upd (fun _ => 0) 0 0))), ((fa0 4), .inl (cI, 3002, .inl (upd (fun _ => 0) 0 0))), ((fa0 5), .inl (cJ, 3002, .inr (.inl (vp_updL (fun _ => 0) 0 0))))] H := ⟨hP, hD⟩
  have hP := hR9.1
  have hD := hR9.2
  refine lv_aload_n hx hb dX11_token_40 rfl (lv_at hl 0 rfl) ?_
  refine lv_dup hx hb dX11_token_41 rfl ?_
  refine va_get (D := (dC, dI)) (ci := 11) (v := .int 0) (C := RX11) (T := TX11) (N := 122) hx hb hts iq_X11_token_X11 hown hK hP 0 rfl rfl 7 (by decide) (hts (Cond.fieldLink RX11 260 "CodePressModel" "tokens" "I") (List.mem_of_getElem? (i := 2) rfl)) (fun _ h9 => h9) rfl dX11_token_42 ?_
  refine lv_iconst (v := 1) hx hb dX11_token_45 (by decide) ?_
  refine lv_iadd hx hb dX11_token_46 ?_
  refine lv_topi (fun x1 ex1 => ?_)
  obtain rfl : x1 = 1 := ex1.trans (by decide)
  refine va_put (D := (dC, dI)) (ci := 11) (v := .int 1) (ty := .int) (C := RX11) (T := TX11) (N := 122) hx hb hts iq_X11_token_X11 tyX11 tyX11_ok nmX11 hown hK hP hD hS 0 rfl rfl 7 (by decide) (hts (Cond.fieldLink RX11 260 "CodePressModel" "tokens" "I") (List.mem_of_getElem? (i := 2) rfl)) (fun _ h9 => h9) rfl (by decide +kernel) rfl rfl (Nat.le_of_ble_eq_true rfl) dX11_token_47 (fun H locs hP hD hS => ?_)
  have hR9 : pq_R (dC, dI) vwCl A [(h0, .inr (11, mo22 fa0)), ((fa0 2), .inl (cI, 3002, .inl (upd (fun _ => 0) 0 0))), ((fa0 3), .inl (cI, 3002, .inl (upd (fun _ => 0) 0 0))), ((fa0 4), .inl (cI, 3002, .inl (upd (fun _ => 0) 0 0))), ((fa0 5), .inl (cJ, 3002, .inr (.inl (vp_updL (fun _ => 0) 0 0))))] H := ⟨hP, hD⟩
  have hP := hR9.1
  have hD := hR9.2
  have hP9 := pq_P.pick (wc := [(h0, .inr (11, mo22 fa0)), ((fa0 2), .inl (cI, 3002, .inl (upd (fun _ => 0) 0 0))), ((fa0 3), .inl (cI, 3002, .inl (upd (fun _ => 0) 0 0))), ((fa0 4), .inl (cI, 3002, .inl (upd (fun _ => 0) 0 0))), ((fa0 5), .inl (cJ, 3002, .inr (.inl (vp_updL (fun _ => 0) 0 0))))]) hP [0, 1, 2, 3, 4] rfl
  have hD9 := hD.sub (ws' := [(h0, .inr (11, mo22 fa0)), ((fa0 2), .inl (cI, 3002, .inl (upd (fun _ => 0) 0 0))), ((fa0 3), .inl (cI, 3002, .inl (upd (fun _ => 0) 0 0))), ((fa0 4), .inl (cI, 3002, .inl (upd (fun _ => 0) 0 0))), ((fa0 5), .inl (cJ, 3002, .inr (.inl (vp_updL (fun _ => 0) 0 0))))]) [0, 1, 2, 3, 4] (by decide) rfl
  refine W.widen (k := 0) (n := 0) (by decide +kernel) (by decide +kernel) ?_
  exact W.vret hx hb hr (fun t ht hW => ⟨⟨sq_u [] [], rfl, trivial, pq_B.of ht hP9 hD9⟩, hS.F ht⟩) hS.2.2 dX11_token_50
def wq_X11_cut_r1 : List Cond := [Cond.fieldLink RX11 257 "CodePressModel" "bytes" "I", Cond.fieldLink RX11 260 "CodePressModel" "tokens" "I", Cond.code yX11_token cX11_token 4 none, Cond.fieldLink RX11 25 "CodePressModel" "sort" "[I", Cond.fieldLink RX11 28 "CodePressModel" "at" "[I", Cond.fieldLink RX11 31 "CodePressModel" "value" "[I", Cond.fieldLink RX11 34 "CodePressModel" "name" "[J", Cond.methodLink RX11 274 yX11_token, Cond.instanceMethod yX11_token, Cond.selects RX11 yX11_token yX11_token, Cond.initialized RX11]
def wq_X11_cut : List Cond := Cond.code yX11_cut cX11_cut 4 none :: (wq_X11_cut_r1 ++ wsX110)
theorem iq_X11_cut_X11 : ∀ w ∈ wsX110, w ∈ wq_X11_cut := fun _ h => List.mem_cons_of_mem _ (List.mem_append_right _ h)
set_option maxRecDepth 20000 in
theorem gq_X11_cut_X11_token_274_0 : GoodIn wq_X11_cut (Cond.code yX11_token cX11_token 4 none :: wq_X11_token_r1) := goodIn_r _ [3, 4, 2, 5, 6, 7] (by decide +kernel) (by decide +kernel)
set_option maxRecDepth 20000 in
theorem gq_X11_cut_X11_token_274 : GoodIn wq_X11_cut (wsV RX11 274 RX11 yX11_token wq_X11_token) := goodIn_app (goodIn_r _ [8, 9, 10, 11] (by decide +kernel) (by decide +kernel)) (goodIn_ca gq_X11_cut_X11_token_274_0 (goodIn_sub iq_X11_cut_X11 guX11))
set_option maxHeartbeats 4000000 in
set_option maxRecDepth 100000 in
theorem cq_X11_cut (l : Launch) (dC : Nat → ClassId) (dI : Nat → Nat → Nat) (cB cI cJ cZ : ClassId) (h0 : Nat) (fa0 : Nat → Nat) (sz : Nat) : Met l yX11_cut wq_X11_cut ({ frames := 1, cells := 0, slots := 0, locals := 23 }) (va_Pc [.ref h0, .int 0] (pq_W (dC, dI) vwCl (tyQ cB cI cJ cZ) [(h0, .inr (11, mo21 fa0)), ((fa0 2), .inl (cI, 3002, .inl (fun _ => 0))), ((fa0 3), .inl (cI, 3002, .inl (fun _ => 0))), ((fa0 4), .inl (cI, 3002, .inl (fun _ => 0))), ((fa0 5), .inl (cJ, 3002, .inr (.inl (fun _ => 0))))] sz)) (va_Qv (fun (_ : SQ) => True) (fun u => pq_B (dC, dI) vwCl [(h0, .inr (11, mo22 fa0)), ((fa0 2), .inl (cI, 3002, .inl (upd (fun _ => 0) 0 0))), ((fa0 3), .inl (cI, 3002, .inl (upd (fun _ => 0) 0 0))), ((fa0 4), .inl (cI, 3002, .inl (upd (fun _ => 0) 0 0))), ((fa0 5), .inl (cJ, 3002, .inr (.inl (vp_updL (fun _ => 0) 0 0))))] (va_A [(h0, .inr (11, mo21 fa0)), ((fa0 2), .inl (cI, 3002, .inl (fun _ => 0))), ((fa0 3), .inl (cI, 3002, .inl (fun _ => 0))), ((fa0 4), .inl (cI, 3002, .inl (fun _ => 0))), ((fa0 5), .inl (cJ, 3002, .inr (.inl (fun _ => 0))))] sz)) (va_A [(h0, .inr (11, mo21 fa0)), ((fa0 2), .inl (cI, 3002, .inl (fun _ => 0))), ((fa0 3), .inl (cI, 3002, .inl (fun _ => 0))), ((fa0 4), .inl (cI, 3002, .inl (fun _ => 0))), ((fa0 5), .inl (cJ, 3002, .inr (.inl (fun _ => 0))))] sz)) 0 0 (va_A [(h0, .inr (11, mo21 fa0)), ((fa0 2), .inl (cI, 3002, .inl (fun _ => 0))), ((fa0 3), .inl (cI, 3002, .inl (fun _ => 0))), ((fa0 4), .inl (cI, 3002, .inl (fun _ => 0))), ((fa0 5), .inl (cJ, 3002, .inr (.inl (fun _ => 0))))] sz) := by
  refine Met.ofW (cc := cX11_cut) (maxL := 4) (ret := none) (by decide) rfl ?_
  intro p e s m args below meth c s₁ B hml hv
  obtain ⟨rfl, hsz, hP, hK, hD0⟩ := hv
  have hx := B.exec
  have hb := B.bytes
  have hr := B.returns
  have hts := atoms_spec (ws := wq_X11_cut) B.pre
  have hown : s.vm.findClass RX11 = some m.cls := findClass_of_methodNamed B.named
  have hlocks := B.notSynchronized
  subst hsz
  have hD := hD0.self (sz := s.heap.size)
  generalize hAe : va_A [(h0, .inr (11, mo21 fa0)), ((fa0 2), .inl (cI, 3002, .inl (fun _ => 0))), ((fa0 3), .inl (cI, 3002, .inl (fun _ => 0))), ((fa0 4), .inl (cI, 3002, .inl (fun _ => 0))), ((fa0 5), .inl (cJ, 3002, .inr (.inl (fun _ => 0))))] s.heap.size = A at hD ⊢
  have hA : ∀ q : Nat, s.heap.size ≤ q → A q := fun q h => by rw [← hAe]; exact Or.inr h
  have hS : va_S A s.heap s.heap [] := va_S.rf
  have hP : va_P (dC, dI) vwCl [(h0, .inr (11, mo21 fa0)), ((fa0 2), .inl (cI, 3002, .inl (fun _ => 0))), ((fa0 3), .inl (cI, 3002, .inl (fun _ => 0))), ((fa0 4), .inl (cI, 3002, .inl (fun _ => 0))), ((fa0 5), .inl (cJ, 3002, .inr (.inl (fun _ => 0))))] s.heap := hP
  obtain ⟨H, hH⟩ : ∃ H, H = s.heap := ⟨_, rfl⟩
  rw [← hH] at hP
  have hS : va_S A s.heap H [] := by rw [hH]; exact hS
  have hl := lv_entry ([.ref h0, .int 0]) (n := 4) (Nat.le_of_ble_eq_true rfl)
  rw [lg_entry_eq]
  generalize (lg_sl ([.ref h0, .int 0]) ++ List.replicate (4 - (lg_sl ([.ref h0, .int 0])).length) Slot.unset).toArray = ls at hl ⊢
  have hl : lv_has ls 4 [(0, .ref h0), (1, .int 0)] := hl
  refine pq_heap hH ?_
  refine lv_aload_n hx hb dX11_cut_0 rfl (lv_at hl 0 rfl) ?_
  refine lv_iload_n hx hb dX11_cut_1 rfl (lv_at hl 1 rfl) ?_
  refine va_put (D := (dC, dI)) (ci := 11) (v := .int 0) (ty := .int) (C := RX11) (T := TX11) (N := 122) hx hb hts iq_X11_cut_X11 tyX11 tyX11_ok nmX11 hown hK hP hD hS 0 rfl rfl 8 (by decide) (hts (Cond.fieldLink RX11 257 "CodePressModel" "bytes" "I") (List.mem_of_getElem? (i := 1) rfl)) (fun _ h9 => h9) rfl (by decide +kernel) rfl rfl (Nat.le_of_ble_eq_true rfl) dX11_cut_2 (fun H locs hP hD hS => ?_)
  have hR9 : pq_R (dC, dI) vwCl A [(h0, .inr (11, mo21 fa0)), ((fa0 2), .inl (cI, 3002, .inl (fun _ => 0))), ((fa0 3), .inl (cI, 3002, .inl (fun _ => 0))), ((fa0 4), .inl (cI, 3002, .inl (fun _ => 0))), ((fa0 5), .inl (cJ, 3002, .inr (.inl (fun _ => 0))))] H := ⟨hP, hD⟩
  have hP := hR9.1
  have hD := hR9.2
  refine lv_aload_n hx hb dX11_cut_5 rfl (lv_at hl 0 rfl) ?_
  refine lv_iconst (v := 0) hx hb dX11_cut_6 (by decide) ?_
  refine va_put (D := (dC, dI)) (ci := 11) (v := .int 0) (ty := .int) (C := RX11) (T := TX11) (N := 122) hx hb hts iq_X11_cut_X11 tyX11 tyX11_ok nmX11 hown hK hP hD hS 0 rfl rfl 7 (by decide) (hts (Cond.fieldLink RX11 260 "CodePressModel" "tokens" "I") (List.mem_of_getElem? (i := 2) rfl)) (fun _ h9 => h9) rfl (by decide +kernel) rfl rfl (Nat.le_of_ble_eq_true rfl) dX11_cut_7 (fun H locs hP hD hS => ?_)
  have hR9 : pq_R (dC, dI) vwCl A [(h0, .inr (11, mo21 fa0)), ((fa0 2), .inl (cI, 3002, .inl (fun _ => 0))), ((fa0 3), .inl (cI, 3002, .inl (fun _ => 0))), ((fa0 4), .inl (cI, 3002, .inl (fun _ => 0))), ((fa0 5), .inl (cJ, 3002, .inr (.inl (fun _ => 0))))] H := ⟨hP, hD⟩
  have hP := hR9.1
  have hD := hR9.2
  refine lv_iconst (v := 0) hx hb dX11_cut_10 (by decide) ?_
  refine lv_istore_n (lv' := [(2, .int 0), (0, .ref h0), (1, .int 0)]) hx hb dX11_cut_11 rfl hl (by decide) rfl (fun ls hl => ?_)
  refine lv_iload_n hx hb dX11_cut_12 rfl (lv_at hl 0 rfl) ?_
  refine lv_iload_n hx hb dX11_cut_13 rfl (lv_at hl 2 rfl) ?_
  refine lv_icmp_ge (tgt := 106) hx hb dX11_cut_14 (by decide) (fun _ => ?_) (fun c_ => absurd (by decide) c_)
  refine lv_aload_n hx hb dX11_cut_106 rfl (lv_at hl 1 rfl) ?_
  refine lv_iconst (v := 0) hx hb dX11_cut_107 (by decide) ?_
  refine lv_iload_n hx hb dX11_cut_108 rfl (lv_at hl 2 rfl) ?_
  refine lv_iconst (v := 0) hx hb dX11_cut_109 (by decide) ?_
  refine pq_cv (wr := []) (W1 := (fun u => [(h0, .inr (11, mo22 fa0)), ((fa0 2), .inl (cI, 3002, .inl (upd (fun _ => 0) 0 0))), ((fa0 3), .inl (cI, 3002, .inl (upd (fun _ => 0) 0 0))), ((fa0 4), .inl (cI, 3002, .inl (upd (fun _ => 0) 0 0))), ((fa0 5), .inl (cJ, 3002, .inr (.inl (vp_updL (fun _ => 0) 0 0))))])) (va_runV (As := [.int 0, .int 0, .int 0]) (rest := []) ⟨hx, hb, hml, hown, hts⟩ (cq_X11_token l dC dI cB cI cJ cZ h0 fa0 H.size) (cwV 3 hts gq_X11_cut_X11_token_274 rfl rfl rfl (by decide +kernel) ⟨(by decide +kernel), (by decide +kernel)⟩) ⟨pq_blind, va_recv hK hP (ci := 11) (q0 := 0) rfl rfl, pq_pre hK hP hD [0, 1, 2, 3, 4] rfl rfl⟩ rfl rfl hl.1 rfl (lv_room (Nat.le_of_ble_eq_true rfl)) dX11_cut_110 ⟨(by decide +kernel), (by decide +kernel)⟩) hP hD hS hA [0, 1, 2, 3, 4] [] rfl rfl rfl (by decide) (fun u1 H locs hw hP hD hS => ?_)
  have hR9 : pq_R (dC, dI) vwCl A [(h0, .inr (11, mo22 fa0)), ((fa0 2), .inl (cI, 3002, .inl (upd (fun _ => 0) 0 0))), ((fa0 3), .inl (cI, 3002, .inl (upd (fun _ => 0) 0 0))), ((fa0 4), .inl (cI, 3002, .inl (upd (fun _ => 0) 0 0))), ((fa0 5), .inl (cJ, 3002, .inr (.inl (vp_updL (fun _ => 0) 0 0))))] H := ⟨hP, hD⟩
  have hP := hR9.1
  have hD := hR9.2
  refine W.widen (k := 0) (n := 0) (by decide +kernel) (by decide +kernel) ?_
  have hP9 := pq_P.pick (wc := [(h0, .inr (11, mo22 fa0)), ((fa0 2), .inl (cI, 3002, .inl (upd (fun _ => 0) 0 0))), ((fa0 3), .inl (cI, 3002, .inl (upd (fun _ => 0) 0 0))), ((fa0 4), .inl (cI, 3002, .inl (upd (fun _ => 0) 0 0))), ((fa0 5), .inl (cJ, 3002, .inr (.inl (vp_updL (fun _ => 0) 0 0))))]) hP [0, 1, 2, 3, 4] rfl
  have hD9 := hD.sub (ws' := [(h0, .inr (11, mo22 fa0)), ((fa0 2), .inl (cI, 3002, .inl (upd (fun _ => 0) 0 0))), ((fa0 3), .inl (cI, 3002, .inl (upd (fun _ => 0) 0 0))), ((fa0 4), .inl (cI, 3002, .inl (upd (fun _ => 0) 0 0))), ((fa0 5), .inl (cJ, 3002, .inr (.inl (vp_updL (fun _ => 0) 0 0))))]) [0, 1, 2, 3, 4] (by decide) rfl
  refine W.widen (k := 0) (n := 0) (by decide +kernel) (by decide +kernel) ?_
  exact W.vret hx hb hr (fun t ht hW => ⟨⟨sq_u [] [], rfl, trivial, pq_B.of ht hP9 hD9⟩, hS.F ht⟩) hS.2.2 dX11_cut_113
def wq_X11_opensText_r1 : List Cond := [Cond.code yX11_cut cX11_cut 4 none, Cond.fieldLink RX11 257 "CodePressModel" "bytes" "I", Cond.fieldLink RX11 260 "CodePressModel" "tokens" "I", Cond.code yX11_token cX11_token 4 none, Cond.fieldLink RX11 25 "CodePressModel" "sort" "[I", Cond.fieldLink RX11 28 "CodePressModel" "at" "[I", Cond.fieldLink RX11 31 "CodePressModel" "value" "[I", Cond.fieldLink RX11 34 "CodePressModel" "name" "[J", Cond.methodLink RX11 274 yX11_token, Cond.instanceMethod yX11_token, Cond.selects RX11 yX11_token yX11_token, Cond.initialized RX11, Cond.methodLink RX11 435 yX11_cut, Cond.instanceMethod yX11_cut, Cond.selects RX11 yX11_cut yX11_cut, Cond.fieldLink RX11 7 "CodePressModel" "taped" "I", Cond.fieldLink RX11 325 "CodePressModel" "t" "I", Cond.fieldLink RX11 342 "CodePressModel" "open" "I", Cond.fieldLink RX11 319 "CodePressModel" "fault" "I", Cond.fieldLink RX11 310 "CodePressModel" "nodes" "I", Cond.fieldLink RX11 293 "CodePressModel" "types" "I", Cond.fieldLink RX11 313 "CodePressModel" "items" "I"]
def wq_X11_opensText : List Cond := Cond.code yX11_opensText cX11_opensText 5 none :: (wq_X11_opensText_r1 ++ wsX110)
theorem iq_X11_opensText_X11 : ∀ w ∈ wsX110, w ∈ wq_X11_opensText := fun _ h => List.mem_cons_of_mem _ (List.mem_append_right _ h)
set_option maxRecDepth 20000 in
theorem gq_X11_opensText_X11_cut_435_0 : GoodIn wq_X11_opensText (Cond.code yX11_cut cX11_cut 4 none :: wq_X11_cut_r1) := goodIn_r _ [1, 2, 3, 4, 5, 6, 7, 8, 9, 10, 11, 12] (by decide +kernel) (by decide +kernel)
set_option maxRecDepth 20000 in
theorem gq_X11_opensText_X11_cut_435 : GoodIn wq_X11_opensText (wsV RX11 435 RX11 yX11_cut wq_X11_cut) := goodIn_app (goodIn_r _ [13, 14, 15, 12] (by decide +kernel) (by decide +kernel)) (goodIn_ca gq_X11_opensText_X11_cut_435_0 (goodIn_sub iq_X11_opensText_X11 guX11))
set_option maxHeartbeats 4000000 in
set_option maxRecDepth 100000 in
theorem cq_X11_opensText (l : Launch) (dC : Nat → ClassId) (dI : Nat → Nat → Nat) (cB cI cJ cZ : ClassId) (h0 : Nat) (fa0 : Nat → Nat) (sz : Nat) : Met l yX11_opensText wq_X11_opensText ({ frames := 2, cells := 0, slots := 0, locals := 46 }) (va_Pc [.ref h0, .int 0, .int 1700, .int 3600, .int 600] (pq_W (dC, dI) vwCl (tyQ cB cI cJ cZ) [(h0, .inr (11, mo21 fa0)), ((fa0 2), .inl (cI, 3002, .inl (fun _ => 0))), ((fa0 3), .inl (cI, 3002, .inl (fun _ => 0))), ((fa0 4), .inl (cI, 3002, .inl (fun _ => 0))), ((fa0 5), .inl (cJ, 3002, .inr (.inl (fun _ => 0))))] sz)) (va_Qv (fun (_ : SQ) => True) (fun u => pq_B (dC, dI) vwCl [(h0, .inr (11, mo25 fa0)), ((fa0 2), .inl (cI, 3002, .inl (upd (fun _ => 0) 0 0))), ((fa0 3), .inl (cI, 3002, .inl (upd (fun _ => 0) 0 0))), ((fa0 4), .inl (cI, 3002, .inl (upd (fun _ => 0) 0 0))), ((fa0 5), .inl (cJ, 3002, .inr (.inl (vp_updL (fun _ => 0) 0 0))))] (va_A [(h0, .inr (11, mo21 fa0)), ((fa0 2), .inl (cI, 3002, .inl (fun _ => 0))), ((fa0 3), .inl (cI, 3002, .inl (fun _ => 0))), ((fa0 4), .inl (cI, 3002, .inl (fun _ => 0))), ((fa0 5), .inl (cJ, 3002, .inr (.inl (fun _ => 0))))] sz)) (va_A [(h0, .inr (11, mo21 fa0)), ((fa0 2), .inl (cI, 3002, .inl (fun _ => 0))), ((fa0 3), .inl (cI, 3002, .inl (fun _ => 0))), ((fa0 4), .inl (cI, 3002, .inl (fun _ => 0))), ((fa0 5), .inl (cJ, 3002, .inr (.inl (fun _ => 0))))] sz)) 0 0 (va_A [(h0, .inr (11, mo21 fa0)), ((fa0 2), .inl (cI, 3002, .inl (fun _ => 0))), ((fa0 3), .inl (cI, 3002, .inl (fun _ => 0))), ((fa0 4), .inl (cI, 3002, .inl (fun _ => 0))), ((fa0 5), .inl (cJ, 3002, .inr (.inl (fun _ => 0))))] sz) := by
  refine Met.ofW (cc := cX11_opensText) (maxL := 5) (ret := none) (by decide) rfl ?_
  intro p e s m args below meth c s₁ B hml hv
  obtain ⟨rfl, hsz, hP, hK, hD0⟩ := hv
  have hx := B.exec
  have hb := B.bytes
  have hr := B.returns
  have hts := atoms_spec (ws := wq_X11_opensText) B.pre
  have hown : s.vm.findClass RX11 = some m.cls := findClass_of_methodNamed B.named
  have hlocks := B.notSynchronized
  subst hsz
  have hD := hD0.self (sz := s.heap.size)
  generalize hAe : va_A [(h0, .inr (11, mo21 fa0)), ((fa0 2), .inl (cI, 3002, .inl (fun _ => 0))), ((fa0 3), .inl (cI, 3002, .inl (fun _ => 0))), ((fa0 4), .inl (cI, 3002, .inl (fun _ => 0))), ((fa0 5), .inl (cJ, 3002, .inr (.inl (fun _ => 0))))] s.heap.size = A at hD ⊢
  have hA : ∀ q : Nat, s.heap.size ≤ q → A q := fun q h => by rw [← hAe]; exact Or.inr h
  have hS : va_S A s.heap s.heap [] := va_S.rf
  have hP : va_P (dC, dI) vwCl [(h0, .inr (11, mo21 fa0)), ((fa0 2), .inl (cI, 3002, .inl (fun _ => 0))), ((fa0 3), .inl (cI, 3002, .inl (fun _ => 0))), ((fa0 4), .inl (cI, 3002, .inl (fun _ => 0))), ((fa0 5), .inl (cJ, 3002, .inr (.inl (fun _ => 0))))] s.heap := hP
  obtain ⟨H, hH⟩ : ∃ H, H = s.heap := ⟨_, rfl⟩
  rw [← hH] at hP
  have hS : va_S A s.heap H [] := by rw [hH]; exact hS
  have hl := lv_entry ([.ref h0, .int 0, .int 1700, .int 3600, .int 600]) (n := 5) (Nat.le_of_ble_eq_true rfl)
  rw [lg_entry_eq]
  generalize (lg_sl ([.ref h0, .int 0, .int 1700, .int 3600, .int 600]) ++ List.replicate (5 - (lg_sl ([.ref h0, .int 0, .int 1700, .int 3600, .int 600])).length) Slot.unset).toArray = ls at hl ⊢
  have hl : lv_has ls 5 [(0, .ref h0), (1, .int 0), (2, .int 1700), (3, .int 3600), (4, .int 600)] := hl
  refine pq_heap hH ?_
  refine lv_aload_n hx hb dX11_opensText_0 rfl (lv_at hl 0 rfl) ?_
  refine lv_iload_n hx hb dX11_opensText_1 rfl (lv_at hl 1 rfl) ?_
  refine pq_cv (wr := []) (W1 := (fun u => [(h0, .inr (11, mo22 fa0)), ((fa0 2), .inl (cI, 3002, .inl (upd (fun _ => 0) 0 0))), ((fa0 3), .inl (cI, 3002, .inl (upd (fun _ => 0) 0 0))), ((fa0 4), .inl (cI, 3002, .inl (upd (fun _ => 0) 0 0))), ((fa0 5), .inl (cJ, 3002, .inr (.inl (vp_updL (fun _ => 0) 0 0))))])) (va_runV (As := [.int 0]) (rest := []) ⟨hx, hb, hml, hown, hts⟩ (cq_X11_cut l dC dI cB cI cJ cZ h0 fa0 H.size) (cwV 1 hts gq_X11_opensText_X11_cut_435 rfl rfl rfl (by decide +kernel) ⟨(by decide +kernel), (by decide +kernel)⟩) ⟨pq_blind, va_recv hK hP (ci := 11) (q0 := 0) rfl rfl, pq_pre hK hP hD [0, 1, 2, 3, 4] rfl rfl⟩ rfl rfl hl.1 rfl (lv_room (Nat.le_of_ble_eq_true rfl)) dX11_opensText_2 ⟨(by decide +kernel), (by decide +kernel)⟩) hP hD hS hA [0, 1, 2, 3, 4] [] rfl rfl rfl (by decide) (fun u1 H locs hw hP hD hS => ?_)
  have hR9 : pq_R (dC, dI) vwCl A [(h0, .inr (11, mo22 fa0)), ((fa0 2), .inl (cI, 3002, .inl (upd (fun _ => 0) 0 0))), ((fa0 3), .inl (cI, 3002, .inl (upd (fun _ => 0) 0 0))), ((fa0 4), .inl (cI, 3002, .inl (upd (fun _ => 0) 0 0))), ((fa0 5), .inl (cJ, 3002, .inr (.inl (vp_updL (fun _ => 0) 0 0))))] H := ⟨hP, hD⟩
  have hP := hR9.1
  have hD := hR9.2
  refine W.widen (k := 0) (n := 0) (by decide +kernel) (by decide +kernel) ?_
  refine lv_aload_n hx hb dX11_opensText_5 rfl (lv_at hl 0 rfl) ?_
  refine lv_iconst (v := 0) hx hb dX11_opensText_6 (by decide) ?_
  refine va_put (D := (dC, dI)) (ci := 11) (v := .int 0) (ty := .int) (C := RX11) (T := TX11) (N := 122) hx hb hts iq_X11_opensText_X11 tyX11 tyX11_ok nmX11 hown hK hP hD hS 0 rfl rfl 1 (by decide) (hts (Cond.fieldLink RX11 7 "CodePressModel" "taped" "I") (List.mem_of_getElem? (i := 16) rfl)) (fun _ h9 => h9) rfl (by decide +kernel) rfl rfl (Nat.le_of_ble_eq_true rfl) dX11_opensText_7 (fun H locs hP hD hS => ?_)
  have hR9 : pq_R (dC, dI) vwCl A [(h0, .inr (11, mo22 fa0)), ((fa0 2), .inl (cI, 3002, .inl (upd (fun _ => 0) 0 0))), ((fa0 3), .inl (cI, 3002, .inl (upd (fun _ => 0) 0 0))), ((fa0 4), .inl (cI, 3002, .inl (upd (fun _ => 0) 0 0))), ((fa0 5), .inl (cJ, 3002, .inr (.inl (vp_updL (fun _ => 0) 0 0))))] H := ⟨hP, hD⟩
  have hP := hR9.1
  have hD := hR9.2
  refine lv_aload_n hx hb dX11_opensText_10 rfl (lv_at hl 0 rfl) ?_
  refine lv_iconst (v := 0) hx hb dX11_opensText_11 (by decide) ?_
  refine va_put (D := (dC, dI)) (ci := 11) (v := .int 0) (ty := .int) (C := RX11) (T := TX11) (N := 122) hx hb hts iq_X11_opensText_X11 tyX11 tyX11_ok nmX11 hown hK hP hD hS 0 rfl rfl 38 (by decide) (hts (Cond.fieldLink RX11 325 "CodePressModel" "t" "I") (List.mem_of_getElem? (i := 17) rfl)) (fun _ h9 => h9) rfl (by decide +kernel) rfl rfl (Nat.le_of_ble_eq_true rfl) dX11_opensText_12 (fun H locs hP hD hS => ?_)
  have hR9 : pq_R (dC, dI) vwCl A [(h0, .inr (11, mo22 fa0)), ((fa0 2), .inl (cI, 3002, .inl (upd (fun _ => 0) 0 0))), ((fa0 3), .inl (cI, 3002, .inl (upd (fun _ => 0) 0 0))), ((fa0 4), .inl (cI, 3002, .inl (upd (fun _ => 0) 0 0))), ((fa0 5), .inl (cJ, 3002, .inr (.inl (vp_updL (fun _ => 0) 0 0))))] H := ⟨hP, hD⟩
  have hP := hR9.1
  have hD := hR9.2
  refine lv_aload_n hx hb dX11_opensText_15 rfl (lv_at hl 0 rfl) ?_
  refine lv_iconst (v := 0) hx hb dX11_opensText_16 (by decide) ?_
  refine va_put (D := (dC, dI)) (ci := 11) (v := .int 0) (ty := .int) (C := RX11) (T := TX11) (N := 122) hx hb hts iq_X11_opensText_X11 tyX11 tyX11_ok nmX11 hown hK hP hD hS 0 rfl rfl 39 (by decide) (hts (Cond.fieldLink RX11 342 "CodePressModel" "open" "I") (List.mem_of_getElem? (i := 18) rfl)) (fun _ h9 => h9) rfl (by decide +kernel) rfl rfl (Nat.le_of_ble_eq_true rfl) dX11_opensText_17 (fun H locs hP hD hS => ?_)
  have hR9 : pq_R (dC, dI) vwCl A [(h0, .inr (11, mo22 fa0)), ((fa0 2), .inl (cI, 3002, .inl (upd (fun _ => 0) 0 0))), ((fa0 3), .inl (cI, 3002, .inl (upd (fun _ => 0) 0 0))), ((fa0 4), .inl (cI, 3002, .inl (upd (fun _ => 0) 0 0))), ((fa0 5), .inl (cJ, 3002, .inr (.inl (vp_updL (fun _ => 0) 0 0))))] H := ⟨hP, hD⟩
  have hP := hR9.1
  have hD := hR9.2
  refine lv_aload_n hx hb dX11_opensText_20 rfl (lv_at hl 0 rfl) ?_
  refine lv_iconst (v := 0) hx hb dX11_opensText_21 (by decide) ?_
  refine va_put (D := (dC, dI)) (ci := 11) (v := .int 0) (ty := .int) (C := RX11) (T := TX11) (N := 122) hx hb hts iq_X11_opensText_X11 tyX11 tyX11_ok nmX11 hown hK hP hD hS 0 rfl rfl 40 (by decide) (hts (Cond.fieldLink RX11 319 "CodePressModel" "fault" "I") (List.mem_of_getElem? (i := 19) rfl)) (fun _ h9 => h9) rfl (by decide +kernel) rfl rfl (Nat.le_of_ble_eq_true rfl) dX11_opensText_22 (fun H locs hP hD hS => ?_)
  have hR9 : pq_R (dC, dI) vwCl A [(h0, .inr (11, mo22 fa0)), ((fa0 2), .inl (cI, 3002, .inl (upd (fun _ => 0) 0 0))), ((fa0 3), .inl (cI, 3002, .inl (upd (fun _ => 0) 0 0))), ((fa0 4), .inl (cI, 3002, .inl (upd (fun _ => 0) 0 0))), ((fa0 5), .inl (cJ, 3002, .inr (.inl (vp_updL (fun _ => 0) 0 0))))] H := ⟨hP, hD⟩
  have hP := hR9.1
  have hD := hR9.2
  refine lv_aload_n hx hb dX11_opensText_25 rfl (lv_at hl 0 rfl) ?_
  refine lv_iload_n hx hb dX11_opensText_26 rfl (lv_at hl 2 rfl) ?_
  refine va_put (D := (dC, dI)) (ci := 11) (v := .int 1700) (ty := .int) (C := RX11) (T := TX11) (N := 122) hx hb hts iq_X11_opensText_X11 tyX11 tyX11_ok nmX11 hown hK hP hD hS 0 rfl rfl 29 (by decide) (hts (Cond.fieldLink RX11 310 "CodePressModel" "nodes" "I") (List.mem_of_getElem? (i := 20) rfl)) (fun _ h9 => h9) rfl (by decide +kernel) rfl rfl (Nat.le_of_ble_eq_true rfl) dX11_opensText_27 (fun H locs hP hD hS => ?_)
  have hR9 : pq_R (dC, dI) vwCl A [(h0, .inr (11, mo23 fa0)), ((fa0 2), .inl (cI, 3002, .inl (upd (fun _ => 0) 0 0))), ((fa0 3), .inl (cI, 3002, .inl (upd (fun _ => 0) 0 0))), ((fa0 4), .inl (cI, 3002, .inl (upd (fun _ => 0) 0 0))), ((fa0 5), .inl (cJ, 3002, .inr (.inl (vp_updL (fun _ => 0) 0 0))))] H := ⟨hP, hD⟩
  have hP := hR9.1
  have hD := hR9.2
  refine lv_aload_n hx hb dX11_opensText_30 rfl (lv_at hl 0 rfl) ?_
  refine lv_iload_n hx hb dX11_opensText_31 rfl (lv_at hl 3 rfl) ?_
  refine va_put (D := (dC, dI)) (ci := 11) (v := .int 3600) (ty := .int) (C := RX11) (T := TX11) (N := 122) hx hb hts iq_X11_opensText_X11 tyX11 tyX11_ok nmX11 hown hK hP hD hS 0 rfl rfl 12 (by decide) (hts (Cond.fieldLink RX11 293 "CodePressModel" "types" "I") (List.mem_of_getElem? (i := 21) rfl)) (fun _ h9 => h9) rfl (by decide +kernel) rfl rfl (Nat.le_of_ble_eq_true rfl) dX11_opensText_32 (fun H locs hP hD hS => ?_)
  have hR9 : pq_R (dC, dI) vwCl A [(h0, .inr (11, mo24 fa0)), ((fa0 2), .inl (cI, 3002, .inl (upd (fun _ => 0) 0 0))), ((fa0 3), .inl (cI, 3002, .inl (upd (fun _ => 0) 0 0))), ((fa0 4), .inl (cI, 3002, .inl (upd (fun _ => 0) 0 0))), ((fa0 5), .inl (cJ, 3002, .inr (.inl (vp_updL (fun _ => 0) 0 0))))] H := ⟨hP, hD⟩
  have hP := hR9.1
  have hD := hR9.2
  refine lv_aload_n hx hb dX11_opensText_35 rfl (lv_at hl 0 rfl) ?_
  refine lv_iload hx hb dX11_opensText_36 (lv_at hl 4 rfl) ?_
  refine va_put (D := (dC, dI)) (ci := 11) (v := .int 600) (ty := .int) (C := RX11) (T := TX11) (N := 122) hx hb hts iq_X11_opensText_X11 tyX11 tyX11_ok nmX11 hown hK hP hD hS 0 rfl rfl 36 (by decide) (hts (Cond.fieldLink RX11 313 "CodePressModel" "items" "I") (List.mem_of_getElem? (i := 22) rfl)) (fun _ h9 => h9) rfl (by decide +kernel) rfl rfl (Nat.le_of_ble_eq_true rfl) dX11_opensText_38 (fun H locs hP hD hS => ?_)
  have hR9 : pq_R (dC, dI) vwCl A [(h0, .inr (11, mo25 fa0)), ((fa0 2), .inl (cI, 3002, .inl (upd (fun _ => 0) 0 0))), ((fa0 3), .inl (cI, 3002, .inl (upd (fun _ => 0) 0 0))), ((fa0 4), .inl (cI, 3002, .inl (upd (fun _ => 0) 0 0))), ((fa0 5), .inl (cJ, 3002, .inr (.inl (vp_updL (fun _ => 0) 0 0))))] H := ⟨hP, hD⟩
  have hP := hR9.1
  have hD := hR9.2
  have hP9 := pq_P.pick (wc := [(h0, .inr (11, mo25 fa0)), ((fa0 2), .inl (cI, 3002, .inl (upd (fun _ => 0) 0 0))), ((fa0 3), .inl (cI, 3002, .inl (upd (fun _ => 0) 0 0))), ((fa0 4), .inl (cI, 3002, .inl (upd (fun _ => 0) 0 0))), ((fa0 5), .inl (cJ, 3002, .inr (.inl (vp_updL (fun _ => 0) 0 0))))]) hP [0, 1, 2, 3, 4] rfl
  have hD9 := hD.sub (ws' := [(h0, .inr (11, mo25 fa0)), ((fa0 2), .inl (cI, 3002, .inl (upd (fun _ => 0) 0 0))), ((fa0 3), .inl (cI, 3002, .inl (upd (fun _ => 0) 0 0))), ((fa0 4), .inl (cI, 3002, .inl (upd (fun _ => 0) 0 0))), ((fa0 5), .inl (cJ, 3002, .inr (.inl (vp_updL (fun _ => 0) 0 0))))]) [0, 1, 2, 3, 4] (by decide) rfl
  refine W.widen (k := 0) (n := 0) (by decide +kernel) (by decide +kernel) ?_
  exact W.vret hx hb hr (fun t ht hW => ⟨⟨sq_u [] [], rfl, trivial, pq_B.of ht hP9 hD9⟩, hS.F ht⟩) hS.2.2 dX11_opensText_41
def wq_X11_good_r1 : List Cond := [Cond.fieldLink RX11 319 "CodePressModel" "fault" "I"]
def wq_X11_good : List Cond := Cond.code yX11_good cX11_good 1 (some .boolean) :: (wq_X11_good_r1 ++ wsX110)
theorem iq_X11_good_X11 : ∀ w ∈ wsX110, w ∈ wq_X11_good := fun _ h => List.mem_cons_of_mem _ (List.mem_append_right _ h)
set_option maxHeartbeats 4000000 in
set_option maxRecDepth 100000 in
theorem cq_X11_good (l : Launch) (dC : Nat → ClassId) (dI : Nat → Nat → Nat) (cB cI cJ cZ : ClassId) (h0 : Nat) (fa0 : Nat → Nat) (sz : Nat) : Met l yX11_good wq_X11_good ({ frames := 0, cells := 0, slots := 0, locals := 0 }) (va_Pc [.ref h0] (pq_W (dC, dI) vwCl (tyQ cB cI cJ cZ) [(h0, .inr (11, mo25 fa0))] sz)) (va_Qi (fun (r : Int32) (_ : SQ) => r = 1) (fun u => pq_B (dC, dI) vwCl [(h0, .inr (11, mo25 fa0))] (va_A [(h0, .inr (11, mo25 fa0))] sz)) (va_A [(h0, .inr (11, mo25 fa0))] sz)) 0 0 (va_A [(h0, .inr (11, mo25 fa0))] sz) := by
  refine Met.ofW (cc := cX11_good) (maxL := 1) (ret := (some .boolean)) (by decide) rfl ?_
  intro p e s m args below meth c s₁ B hml hv
  obtain ⟨rfl, hsz, hP, hK, hD0⟩ := hv
  have hx := B.exec
  have hb := B.bytes
  have hr := B.returns
  have hts := atoms_spec (ws := wq_X11_good) B.pre
  have hown : s.vm.findClass RX11 = some m.cls := findClass_of_methodNamed B.named
  have hlocks := B.notSynchronized
  subst hsz
  have hD := hD0.self (sz := s.heap.size)
  generalize hAe : va_A [(h0, .inr (11, mo25 fa0))] s.heap.size = A at hD ⊢
  have hA : ∀ q : Nat, s.heap.size ≤ q → A q := fun q h => by rw [← hAe]; exact Or.inr h
  have hS : va_S A s.heap s.heap [] := va_S.rf
  have hP : va_P (dC, dI) vwCl [(h0, .inr (11, mo25 fa0))] s.heap := hP
  obtain ⟨H, hH⟩ : ∃ H, H = s.heap := ⟨_, rfl⟩
  rw [← hH] at hP
  have hS : va_S A s.heap H [] := by rw [hH]; exact hS
  have hl := lv_entry ([.ref h0]) (n := 1) (Nat.le_of_ble_eq_true rfl)
  rw [lg_entry_eq]
  generalize (lg_sl ([.ref h0]) ++ List.replicate (1 - (lg_sl ([.ref h0])).length) Slot.unset).toArray = ls at hl ⊢
  have hl : lv_has ls 1 [(0, .ref h0)] := hl
  refine pq_heap hH ?_
  refine lv_aload_n hx hb dX11_good_0 rfl (lv_at hl 0 rfl) ?_
  refine va_get (D := (dC, dI)) (ci := 11) (v := .int 0) (C := RX11) (T := TX11) (N := 122) hx hb hts iq_X11_good_X11 hown hK hP 0 rfl rfl 40 (by decide) (hts (Cond.fieldLink RX11 319 "CodePressModel" "fault" "I") (List.mem_of_getElem? (i := 1) rfl)) (fun _ h9 => h9) rfl dX11_good_1 ?_
  refine lv_if_ne (tgt := 11) hx hb dX11_good_4 (by decide) (fun c_ => absurd (by decide) c_) (fun _ => ?_)
  refine lv_iconst (v := 1) hx hb dX11_good_7 (by decide) ?_
  refine lv_goto (tgt := 12) hx hb dX11_good_8 (by decide) ?_
  have hP9 := pq_P.pick (wc := [(h0, .inr (11, mo25 fa0))]) hP [0] rfl
  have hD9 := hD.sub (ws' := [(h0, .inr (11, mo25 fa0))]) [0] (by decide) rfl
  refine W.widen (k := 0) (n := 0) (by decide +kernel) (by decide +kernel) ?_
  exact W.zret (v := 1) hx hb hr rfl (fun t ht hW => ⟨⟨1, sq_u [] [], rfl, rfl, pq_B.of ht hP9 hD9⟩, hS.F ht⟩) hS.2.2 dX11_good_12
def wq_X11_load_r1 : List Cond := [Cond.fieldLink RX11 7 "CodePressModel" "taped" "I", Cond.fieldLink RX11 438 "CodePressModel" "half" "I", Cond.fieldLink RX11 432 "CodePressModel" "draft" "I", Cond.fieldLink RX11 429 "CodePressModel" "reading" "I", Cond.code yX11_opensText cX11_opensText 5 none, Cond.code yX11_cut cX11_cut 4 none, Cond.fieldLink RX11 257 "CodePressModel" "bytes" "I", Cond.fieldLink RX11 260 "CodePressModel" "tokens" "I", Cond.code yX11_token cX11_token 4 none, Cond.fieldLink RX11 25 "CodePressModel" "sort" "[I", Cond.fieldLink RX11 28 "CodePressModel" "at" "[I", Cond.fieldLink RX11 31 "CodePressModel" "value" "[I", Cond.fieldLink RX11 34 "CodePressModel" "name" "[J", Cond.methodLink RX11 274 yX11_token, Cond.instanceMethod yX11_token, Cond.selects RX11 yX11_token yX11_token, Cond.initialized RX11, Cond.methodLink RX11 435 yX11_cut, Cond.instanceMethod yX11_cut, Cond.selects RX11 yX11_cut yX11_cut, Cond.fieldLink RX11 325 "CodePressModel" "t" "I", Cond.fieldLink RX11 342 "CodePressModel" "open" "I", Cond.fieldLink RX11 319 "CodePressModel" "fault" "I", Cond.fieldLink RX11 310 "CodePressModel" "nodes" "I"]
def wq_X11_load_r2 : List Cond := [Cond.fieldLink RX11 293 "CodePressModel" "types" "I", Cond.fieldLink RX11 313 "CodePressModel" "items" "I", Cond.methodLink RX11 441 yX11_opensText, Cond.instanceMethod yX11_opensText, Cond.selects RX11 yX11_opensText yX11_opensText, Cond.code yX11_good cX11_good 1 (some .boolean), Cond.methodLink RX11 332 yX11_good, Cond.instanceMethod yX11_good, Cond.selects RX11 yX11_good yX11_good, Cond.fieldLink RX11 451 "CodePressModel" "toldFault" "I", Cond.fieldLink RX11 112 "CodePressModel" "toldPlace" "I", Cond.fieldLink RX11 454 "CodePressModel" "defs" "I"]
def wq_X11_load : List Cond := Cond.code yX11_load cX11_load 4 (some .int) :: ((wq_X11_load_r1 ++ wq_X11_load_r2) ++ wsX110)
theorem iq_X11_load_X11 : ∀ w ∈ wsX110, w ∈ wq_X11_load := fun _ h => List.mem_cons_of_mem _ (List.mem_append_right _ h)
set_option maxRecDepth 20000 in
theorem gq_X11_load_X11_opensText_441_0 : GoodIn wq_X11_load (Cond.code yX11_opensText cX11_opensText 5 none :: wq_X11_opensText_r1) := goodIn_r _ [5, 6, 7, 8, 9, 10, 11, 12, 13, 14, 15, 16, 17, 18, 19, 20, 1, 21, 22, 23, 24, 25, 26] (by decide +kernel) (by decide +kernel)
set_option maxRecDepth 20000 in
theorem gq_X11_load_X11_opensText_441 : GoodIn wq_X11_load (wsV RX11 441 RX11 yX11_opensText wq_X11_opensText) := goodIn_app (goodIn_r _ [27, 28, 29, 17] (by decide +kernel) (by decide +kernel)) (goodIn_ca gq_X11_load_X11_opensText_441_0 (goodIn_sub iq_X11_load_X11 guX11))
set_option maxRecDepth 20000 in
theorem gq_X11_load_X11_good_332_0 : GoodIn wq_X11_load (Cond.code yX11_good cX11_good 1 (some .boolean) :: wq_X11_good_r1) := goodIn_r _ [30, 23] (by decide +kernel) (by decide +kernel)
set_option maxRecDepth 20000 in
theorem gq_X11_load_X11_good_332 : GoodIn wq_X11_load (wsV RX11 332 RX11 yX11_good wq_X11_good) := goodIn_app (goodIn_r _ [31, 32, 33, 17] (by decide +kernel) (by decide +kernel)) (goodIn_ca gq_X11_load_X11_good_332_0 (goodIn_sub iq_X11_load_X11 guX11))
set_option maxHeartbeats 4000000 in
set_option maxRecDepth 100000 in
theorem cq_X11_load (l : Launch) (dC : Nat → ClassId) (dI : Nat → Nat → Nat) (cB cI cJ cZ : ClassId) (h0 : Nat) (fa0 : Nat → Nat) (sz : Nat) : Met l yX11_load wq_X11_load ({ frames := 3, cells := 0, slots := 0, locals := 70 }) (va_Pc [.ref h0, .int 0] (pq_W (dC, dI) vwCl (tyQ cB cI cJ cZ) [(h0, .inr (11, mo0 fa0)), ((fa0 2), .inl (cI, 3002, .inl (fun _ => 0))), ((fa0 3), .inl (cI, 3002, .inl (fun _ => 0))), ((fa0 4), .inl (cI, 3002, .inl (fun _ => 0))), ((fa0 5), .inl (cJ, 3002, .inr (.inl (fun _ => 0))))] sz)) (va_Qi (fun (r : Int32) (_ : SQ) => r = 0) (fun u => pq_B (dC, dI) vwCl [((fa0 2), .inl (cI, 3002, .inl (upd (fun _ => 0) 0 0))), ((fa0 3), .inl (cI, 3002, .inl (upd (fun _ => 0) 0 0))), ((fa0 4), .inl (cI, 3002, .inl (upd (fun _ => 0) 0 0))), ((fa0 5), .inl (cJ, 3002, .inr (.inl (vp_updL (fun _ => 0) 0 0)))), (h0, .inr (11, mo26 fa0))] (va_A [(h0, .inr (11, mo0 fa0)), ((fa0 2), .inl (cI, 3002, .inl (fun _ => 0))), ((fa0 3), .inl (cI, 3002, .inl (fun _ => 0))), ((fa0 4), .inl (cI, 3002, .inl (fun _ => 0))), ((fa0 5), .inl (cJ, 3002, .inr (.inl (fun _ => 0))))] sz)) (va_A [(h0, .inr (11, mo0 fa0)), ((fa0 2), .inl (cI, 3002, .inl (fun _ => 0))), ((fa0 3), .inl (cI, 3002, .inl (fun _ => 0))), ((fa0 4), .inl (cI, 3002, .inl (fun _ => 0))), ((fa0 5), .inl (cJ, 3002, .inr (.inl (fun _ => 0))))] sz)) 0 0 (va_A [(h0, .inr (11, mo0 fa0)), ((fa0 2), .inl (cI, 3002, .inl (fun _ => 0))), ((fa0 3), .inl (cI, 3002, .inl (fun _ => 0))), ((fa0 4), .inl (cI, 3002, .inl (fun _ => 0))), ((fa0 5), .inl (cJ, 3002, .inr (.inl (fun _ => 0))))] sz) := by
  refine Met.ofW (cc := cX11_load) (maxL := 4) (ret := (some .int)) (by decide) rfl ?_
  intro p e s m args below meth c s₁ B hml hv
  obtain ⟨rfl, hsz, hP, hK, hD0⟩ := hv
  have hx := B.exec
  have hb := B.bytes
  have hr := B.returns
  have hts := atoms_spec (ws := wq_X11_load) B.pre
  have hown : s.vm.findClass RX11 = some m.cls := findClass_of_methodNamed B.named
  have hlocks := B.notSynchronized
  subst hsz
  have hD := hD0.self (sz := s.heap.size)
  generalize hAe : va_A [(h0, .inr (11, mo0 fa0)), ((fa0 2), .inl (cI, 3002, .inl (fun _ => 0))), ((fa0 3), .inl (cI, 3002, .inl (fun _ => 0))), ((fa0 4), .inl (cI, 3002, .inl (fun _ => 0))), ((fa0 5), .inl (cJ, 3002, .inr (.inl (fun _ => 0))))] s.heap.size = A at hD ⊢
  have hA : ∀ q : Nat, s.heap.size ≤ q → A q := fun q h => by rw [← hAe]; exact Or.inr h
  have hS : va_S A s.heap s.heap [] := va_S.rf
  have hP : va_P (dC, dI) vwCl [(h0, .inr (11, mo0 fa0)), ((fa0 2), .inl (cI, 3002, .inl (fun _ => 0))), ((fa0 3), .inl (cI, 3002, .inl (fun _ => 0))), ((fa0 4), .inl (cI, 3002, .inl (fun _ => 0))), ((fa0 5), .inl (cJ, 3002, .inr (.inl (fun _ => 0))))] s.heap := hP
  obtain ⟨H, hH⟩ : ∃ H, H = s.heap := ⟨_, rfl⟩
  rw [← hH] at hP
  have hS : va_S A s.heap H [] := by rw [hH]; exact hS
  have hl := lv_entry ([.ref h0, .int 0]) (n := 4) (Nat.le_of_ble_eq_true rfl)
  rw [lg_entry_eq]
  generalize (lg_sl ([.ref h0, .int 0]) ++ List.replicate (4 - (lg_sl ([.ref h0, .int 0])).length) Slot.unset).toArray = ls at hl ⊢
  have hl : lv_has ls 4 [(0, .ref h0), (1, .int 0)] := hl
  refine pq_heap hH ?_
  refine lv_iload_n hx hb dX11_load_0 rfl (lv_at hl 1 rfl) ?_
  refine lv_if_lt (tgt := 12) hx hb dX11_load_1 (by decide) (fun c_ => absurd c_ (by decide)) (fun _ => ?_)
  refine lv_iload_n hx hb dX11_load_4 rfl (lv_at hl 1 rfl) ?_
  refine lv_aload_n hx hb dX11_load_5 rfl (lv_at hl 0 rfl) ?_
  refine va_get (D := (dC, dI)) (ci := 11) (v := .int 0) (C := RX11) (T := TX11) (N := 122) hx hb hts iq_X11_load_X11 hown hK hP 0 rfl rfl 1 (by decide) (hts (Cond.fieldLink RX11 7 "CodePressModel" "taped" "I") (List.mem_of_getElem? (i := 1) rfl)) (fun _ h9 => h9) rfl dX11_load_6 ?_
  refine lv_icmp_le (tgt := 15) hx hb dX11_load_9 (by decide) (fun _ => ?_) (fun c_ => absurd (by decide) c_)
  refine lv_iconst (v := 1) hx hb dX11_load_15 (by decide) ?_
  refine lv_aload_n hx hb dX11_load_16 rfl (lv_at hl 0 rfl) ?_
  refine va_get (D := (dC, dI)) (ci := 11) (v := .int 0) (C := RX11) (T := TX11) (N := 122) hx hb hts iq_X11_load_X11 hown hK hP 0 rfl rfl 46 (by decide) (hts (Cond.fieldLink RX11 438 "CodePressModel" "half" "I") (List.mem_of_getElem? (i := 2) rfl)) (fun _ h9 => h9) rfl dX11_load_17 ?_
  refine lv_isub hx hb dX11_load_20 ?_
  refine lv_topi (fun x1 ex1 => ?_)
  obtain rfl : x1 = 1 := ex1.trans (by decide)
  refine lv_istore_n (lv' := [(2, .int 1), (0, .ref h0), (1, .int 0)]) hx hb dX11_load_21 rfl hl (by decide) rfl (fun ls hl => ?_)
  refine lv_aload_n hx hb dX11_load_22 rfl (lv_at hl 1 rfl) ?_
  refine lv_bipush (v := 32) hx hb dX11_load_23 (by decide) ?_
  refine lv_iload_n hx hb dX11_load_25 rfl (lv_at hl 0 rfl) ?_
  refine lv_imul hx hb dX11_load_26 ?_
  refine lv_topi (fun x2 ex2 => ?_)
  obtain rfl : x2 = 32 := ex2.trans (by decide)
  refine va_put (D := (dC, dI)) (ci := 11) (v := .int 32) (ty := .int) (C := RX11) (T := TX11) (N := 122) hx hb hts iq_X11_load_X11 tyX11 tyX11_ok nmX11 hown hK hP hD hS 0 rfl rfl 58 (by decide) (hts (Cond.fieldLink RX11 432 "CodePressModel" "draft" "I") (List.mem_of_getElem? (i := 3) rfl)) (fun _ h9 => h9) rfl (by decide +kernel) rfl rfl (Nat.le_of_ble_eq_true rfl) dX11_load_27 (fun H locs hP hD hS => ?_)
  have hR9 : pq_R (dC, dI) vwCl A [(h0, .inr (11, mo21 fa0)), ((fa0 2), .inl (cI, 3002, .inl (fun _ => 0))), ((fa0 3), .inl (cI, 3002, .inl (fun _ => 0))), ((fa0 4), .inl (cI, 3002, .inl (fun _ => 0))), ((fa0 5), .inl (cJ, 3002, .inr (.inl (fun _ => 0))))] H := ⟨hP, hD⟩
  have hP := hR9.1
  have hD := hR9.2
  refine lv_aload_n hx hb dX11_load_30 rfl (lv_at hl 1 rfl) ?_
  refine lv_iconst (v := 0) hx hb dX11_load_31 (by decide) ?_
  refine va_put (D := (dC, dI)) (ci := 11) (v := .int 0) (ty := .int) (C := RX11) (T := TX11) (N := 122) hx hb hts iq_X11_load_X11 tyX11 tyX11_ok nmX11 hown hK hP hD hS 0 rfl rfl 59 (by decide) (hts (Cond.fieldLink RX11 429 "CodePressModel" "reading" "I") (List.mem_of_getElem? (i := 4) rfl)) (fun _ h9 => h9) rfl (by decide +kernel) rfl rfl (Nat.le_of_ble_eq_true rfl) dX11_load_32 (fun H locs hP hD hS => ?_)
  have hR9 : pq_R (dC, dI) vwCl A [(h0, .inr (11, mo21 fa0)), ((fa0 2), .inl (cI, 3002, .inl (fun _ => 0))), ((fa0 3), .inl (cI, 3002, .inl (fun _ => 0))), ((fa0 4), .inl (cI, 3002, .inl (fun _ => 0))), ((fa0 5), .inl (cJ, 3002, .inr (.inl (fun _ => 0))))] H := ⟨hP, hD⟩
  have hP := hR9.1
  have hD := hR9.2
  refine lv_aload_n hx hb dX11_load_35 rfl (lv_at hl 1 rfl) ?_
  refine lv_iload_n hx hb dX11_load_36 rfl (lv_at hl 2 rfl) ?_
  refine lv_sipush (v := 1700) hx hb dX11_load_37 (by decide) ?_
  refine lv_iload_n hx hb dX11_load_40 rfl (lv_at hl 0 rfl) ?_
  refine lv_imul hx hb dX11_load_41 ?_
  refine lv_topi (fun x3 ex3 => ?_)
  obtain rfl : x3 = 1700 := ex3.trans (by decide)
  refine lv_sipush (v := 3600) hx hb dX11_load_42 (by decide) ?_
  refine lv_iload_n hx hb dX11_load_45 rfl (lv_at hl 0 rfl) ?_
  refine lv_imul hx hb dX11_load_46 ?_
  refine lv_topi (fun x4 ex4 => ?_)
  obtain rfl : x4 = 3600 := ex4.trans (by decide)
  refine lv_sipush (v := 600) hx hb dX11_load_47 (by decide) ?_
  refine lv_iload_n hx hb dX11_load_50 rfl (lv_at hl 0 rfl) ?_
  refine lv_imul hx hb dX11_load_51 ?_
  refine lv_topi (fun x5 ex5 => ?_)
  obtain rfl : x5 = 600 := ex5.trans (by decide)
  refine pq_cv (wr := []) (W1 := (fun u => [(h0, .inr (11, mo25 fa0)), ((fa0 2), .inl (cI, 3002, .inl (upd (fun _ => 0) 0 0))), ((fa0 3), .inl (cI, 3002, .inl (upd (fun _ => 0) 0 0))), ((fa0 4), .inl (cI, 3002, .inl (upd (fun _ => 0) 0 0))), ((fa0 5), .inl (cJ, 3002, .inr (.inl (vp_updL (fun _ => 0) 0 0))))])) (va_runV (As := [.int 0, .int 1700, .int 3600, .int 600]) (rest := []) ⟨hx, hb, hml, hown, hts⟩ (cq_X11_opensText l dC dI cB cI cJ cZ h0 fa0 H.size) (cwV 4 hts gq_X11_load_X11_opensText_441 rfl rfl rfl (by decide +kernel) ⟨(by decide +kernel), (by decide +kernel)⟩) ⟨pq_blind, va_recv hK hP (ci := 11) (q0 := 0) rfl rfl, pq_pre hK hP hD [0, 1, 2, 3, 4] rfl rfl⟩ rfl rfl hl.1 rfl (lv_room (Nat.le_of_ble_eq_true rfl)) dX11_load_52 ⟨(by decide +kernel), (by decide +kernel)⟩) hP hD hS hA [0, 1, 2, 3, 4] [] rfl rfl rfl (by decide) (fun u6 H locs hw hP hD hS => ?_)
  have hR9 : pq_R (dC, dI) vwCl A [(h0, .inr (11, mo25 fa0)), ((fa0 2), .inl (cI, 3002, .inl (upd (fun _ => 0) 0 0))), ((fa0 3), .inl (cI, 3002, .inl (upd (fun _ => 0) 0 0))), ((fa0 4), .inl (cI, 3002, .inl (upd (fun _ => 0) 0 0))), ((fa0 5), .inl (cJ, 3002, .inr (.inl (vp_updL (fun _ => 0) 0 0))))] H := ⟨hP, hD⟩
  have hP := hR9.1
  have hD := hR9.2
  refine W.widen (k := 0) (n := 0) (by decide +kernel) (by decide +kernel) ?_
  refine lv_aload_n hx hb dX11_load_55 rfl (lv_at hl 1 rfl) ?_
  refine pq_ci (wr := [((fa0 2), .inl (cI, 3002, .inl (upd (fun _ => 0) 0 0))), ((fa0 3), .inl (cI, 3002, .inl (upd (fun _ => 0) 0 0))), ((fa0 4), .inl (cI, 3002, .inl (upd (fun _ => 0) 0 0))), ((fa0 5), .inl (cJ, 3002, .inr (.inl (vp_updL (fun _ => 0) 0 0))))]) (W1 := (fun u => [(h0, .inr (11, mo25 fa0))])) (va_runV (As := []) (rest := []) ⟨hx, hb, hml, hown, hts⟩ (cq_X11_good l dC dI cB cI cJ cZ h0 fa0 H.size) (cwV 0 hts gq_X11_load_X11_good_332 rfl rfl rfl (by decide +kernel) ⟨(by decide +kernel), (by decide +kernel)⟩) ⟨pq_blind, va_recv hK hP (ci := 11) (q0 := 0) rfl rfl, pq_pre hK hP hD [0] rfl rfl⟩ rfl rfl hl.1 rfl (lv_room (Nat.le_of_ble_eq_true rfl)) dX11_load_56 ⟨(by decide +kernel), (by decide +kernel)⟩) hP hD hS hA [0] [1, 2, 3, 4] rfl rfl rfl (by decide) (fun r8 u7 H locs hw hP hD hS => ?_)
  subst hw
  have hR9 : pq_R (dC, dI) vwCl A [((fa0 2), .inl (cI, 3002, .inl (upd (fun _ => 0) 0 0))), ((fa0 3), .inl (cI, 3002, .inl (upd (fun _ => 0) 0 0))), ((fa0 4), .inl (cI, 3002, .inl (upd (fun _ => 0) 0 0))), ((fa0 5), .inl (cJ, 3002, .inr (.inl (vp_updL (fun _ => 0) 0 0)))), (h0, .inr (11, mo25 fa0))] H := ⟨hP, hD⟩
  have hP := hR9.1
  have hD := hR9.2
  refine W.widen (k := 0) (n := 0) (by decide +kernel) (by decide +kernel) ?_
  refine lv_if_eq (tgt := 81) hx hb dX11_load_59 (by decide) (fun c_ => absurd c_ (by decide)) (fun _ => ?_)
  refine lv_aload_n hx hb dX11_load_62 rfl (lv_at hl 1 rfl) ?_
  refine va_get (D := (dC, dI)) (ci := 11) (v := .ref (fa0 2)) (C := RX11) (T := TX11) (N := 122) hx hb hts iq_X11_load_X11 hown hK hP 4 rfl rfl 3 (by decide) (hts (Cond.fieldLink RX11 25 "CodePressModel" "sort" "[I") (List.mem_of_getElem? (i := 10) rfl)) (fun _ h9 => h9) rfl dX11_load_63 ?_
  refine lv_aload_n hx hb dX11_load_66 rfl (lv_at hl 1 rfl) ?_
  refine va_get (D := (dC, dI)) (ci := 11) (v := .int 0) (C := RX11) (T := TX11) (N := 122) hx hb hts iq_X11_load_X11 hown hK hP 4 rfl rfl 38 (by decide) (hts (Cond.fieldLink RX11 325 "CodePressModel" "t" "I") (List.mem_of_getElem? (i := 21) rfl)) (fun _ h9 => h9) rfl dX11_load_67 ?_
  refine va_iald hx hb hK hP 0 1 rfl rfl (pq_in (by decide)) dX11_load_70 ?_
  refine lv_topi (fun x9 ex9 => ?_)
  obtain rfl : x9 = 0 := ex9.trans (by decide)
  refine lv_if_eq (tgt := 81) hx hb dX11_load_71 (by decide) (fun _ => ?_) (fun c_ => absurd (by decide) c_)
  refine lv_iconst (v := 0) hx hb dX11_load_81 (by decide) ?_
  refine lv_istore_n (lv' := [(3, .int 0), (2, .int 1), (0, .ref h0), (1, .int 0)]) hx hb dX11_load_82 rfl hl (by decide) rfl (fun ls hl => ?_)
  refine lv_iload_n hx hb dX11_load_83 rfl (lv_at hl 0 rfl) ?_
  refine lv_aload_n hx hb dX11_load_84 rfl (lv_at hl 2 rfl) ?_
  refine va_get (D := (dC, dI)) (ci := 11) (v := .int 0) (C := RX11) (T := TX11) (N := 122) hx hb hts iq_X11_load_X11 hown hK hP 4 rfl rfl 59 (by decide) (hts (Cond.fieldLink RX11 429 "CodePressModel" "reading" "I") (List.mem_of_getElem? (i := 4) rfl)) (fun _ h9 => h9) rfl dX11_load_85 ?_
  refine lv_icmp_ge (tgt := 115) hx hb dX11_load_88 (by decide) (fun _ => ?_) (fun c_ => absurd (by decide) c_)
  refine lv_aload_n hx hb dX11_load_115 rfl (lv_at hl 2 rfl) ?_
  refine lv_aload_n hx hb dX11_load_116 rfl (lv_at hl 2 rfl) ?_
  refine va_get (D := (dC, dI)) (ci := 11) (v := .int 0) (C := RX11) (T := TX11) (N := 122) hx hb hts iq_X11_load_X11 hown hK hP 4 rfl rfl 40 (by decide) (hts (Cond.fieldLink RX11 319 "CodePressModel" "fault" "I") (List.mem_of_getElem? (i := 23) rfl)) (fun _ h9 => h9) rfl dX11_load_117 ?_
  refine va_put (D := (dC, dI)) (ci := 11) (v := .int 0) (ty := .int) (C := RX11) (T := TX11) (N := 122) hx hb hts iq_X11_load_X11 tyX11 tyX11_ok nmX11 hown hK hP hD hS 4 rfl rfl 43 (by decide) (hts (Cond.fieldLink RX11 451 "CodePressModel" "toldFault" "I") (List.mem_of_getElem? (i := 34) rfl)) (fun _ h9 => h9) rfl (by decide +kernel) rfl rfl (Nat.le_of_ble_eq_true rfl) dX11_load_120 (fun H locs hP hD hS => ?_)
  have hR9 : pq_R (dC, dI) vwCl A [((fa0 2), .inl (cI, 3002, .inl (upd (fun _ => 0) 0 0))), ((fa0 3), .inl (cI, 3002, .inl (upd (fun _ => 0) 0 0))), ((fa0 4), .inl (cI, 3002, .inl (upd (fun _ => 0) 0 0))), ((fa0 5), .inl (cJ, 3002, .inr (.inl (vp_updL (fun _ => 0) 0 0)))), (h0, .inr (11, mo25 fa0))] H := ⟨hP, hD⟩
  have hP := hR9.1
  have hD := hR9.2
  refine lv_aload_n hx hb dX11_load_123 rfl (lv_at hl 2 rfl) ?_
  refine lv_aload_n hx hb dX11_load_124 rfl (lv_at hl 2 rfl) ?_
  refine va_get (D := (dC, dI)) (ci := 11) (v := .int 0) (C := RX11) (T := TX11) (N := 122) hx hb hts iq_X11_load_X11 hown hK hP 4 rfl rfl 40 (by decide) (hts (Cond.fieldLink RX11 319 "CodePressModel" "fault" "I") (List.mem_of_getElem? (i := 23) rfl)) (fun _ h9 => h9) rfl dX11_load_125 ?_
  refine lv_if_le (tgt := 138) hx hb dX11_load_128 (by decide) (fun _ => ?_) (fun c_ => absurd (by decide) c_)
  refine lv_iconst (v := (-1)) hx hb dX11_load_138 (by decide) ?_
  refine va_put (D := (dC, dI)) (ci := 11) (v := .int (-1)) (ty := .int) (C := RX11) (T := TX11) (N := 122) hx hb hts iq_X11_load_X11 tyX11 tyX11_ok nmX11 hown hK hP hD hS 4 rfl rfl 44 (by decide) (hts (Cond.fieldLink RX11 112 "CodePressModel" "toldPlace" "I") (List.mem_of_getElem? (i := 35) rfl)) (fun _ h9 => h9) rfl (by decide +kernel) rfl rfl (Nat.le_of_ble_eq_true rfl) dX11_load_139 (fun H locs hP hD hS => ?_)
  have hR9 : pq_R (dC, dI) vwCl A [((fa0 2), .inl (cI, 3002, .inl (upd (fun _ => 0) 0 0))), ((fa0 3), .inl (cI, 3002, .inl (upd (fun _ => 0) 0 0))), ((fa0 4), .inl (cI, 3002, .inl (upd (fun _ => 0) 0 0))), ((fa0 5), .inl (cJ, 3002, .inr (.inl (vp_updL (fun _ => 0) 0 0)))), (h0, .inr (11, mo25 fa0))] H := ⟨hP, hD⟩
  have hP := hR9.1
  have hD := hR9.2
  refine lv_aload_n hx hb dX11_load_142 rfl (lv_at hl 2 rfl) ?_
  refine va_get (D := (dC, dI)) (ci := 11) (v := .int 0) (C := RX11) (T := TX11) (N := 122) hx hb hts iq_X11_load_X11 hown hK hP 4 rfl rfl 40 (by decide) (hts (Cond.fieldLink RX11 319 "CodePressModel" "fault" "I") (List.mem_of_getElem? (i := 23) rfl)) (fun _ h9 => h9) rfl dX11_load_143 ?_
  refine lv_if_le (tgt := 151) hx hb dX11_load_146 (by decide) (fun _ => ?_) (fun c_ => absurd (by decide) c_)
  refine lv_aload_n hx hb dX11_load_151 rfl (lv_at hl 2 rfl) ?_
  refine lv_iload_n hx hb dX11_load_152 rfl (lv_at hl 1 rfl) ?_
  refine va_put (D := (dC, dI)) (ci := 11) (v := .int 1) (ty := .int) (C := RX11) (T := TX11) (N := 122) hx hb hts iq_X11_load_X11 tyX11 tyX11_ok nmX11 hown hK hP hD hS 4 rfl rfl 46 (by decide) (hts (Cond.fieldLink RX11 438 "CodePressModel" "half" "I") (List.mem_of_getElem? (i := 2) rfl)) (fun _ h9 => h9) rfl (by decide +kernel) rfl rfl (Nat.le_of_ble_eq_true rfl) dX11_load_153 (fun H locs hP hD hS => ?_)
  have hR9 : pq_R (dC, dI) vwCl A [((fa0 2), .inl (cI, 3002, .inl (upd (fun _ => 0) 0 0))), ((fa0 3), .inl (cI, 3002, .inl (upd (fun _ => 0) 0 0))), ((fa0 4), .inl (cI, 3002, .inl (upd (fun _ => 0) 0 0))), ((fa0 5), .inl (cJ, 3002, .inr (.inl (vp_updL (fun _ => 0) 0 0)))), (h0, .inr (11, mo26 fa0))] H := ⟨hP, hD⟩
  have hP := hR9.1
  have hD := hR9.2
  refine lv_aload_n hx hb dX11_load_156 rfl (lv_at hl 2 rfl) ?_
  refine lv_aload_n hx hb dX11_load_157 rfl (lv_at hl 2 rfl) ?_
  refine va_get (D := (dC, dI)) (ci := 11) (v := .int 0) (C := RX11) (T := TX11) (N := 122) hx hb hts iq_X11_load_X11 hown hK hP 4 rfl rfl 59 (by decide) (hts (Cond.fieldLink RX11 429 "CodePressModel" "reading" "I") (List.mem_of_getElem? (i := 4) rfl)) (fun _ h9 => h9) rfl dX11_load_158 ?_
  refine va_put (D := (dC, dI)) (ci := 11) (v := .int 0) (ty := .int) (C := RX11) (T := TX11) (N := 122) hx hb hts iq_X11_load_X11 tyX11 tyX11_ok nmX11 hown hK hP hD hS 4 rfl rfl 47 (by decide) (hts (Cond.fieldLink RX11 454 "CodePressModel" "defs" "I") (List.mem_of_getElem? (i := 36) rfl)) (fun _ h9 => h9) rfl (by decide +kernel) rfl rfl (Nat.le_of_ble_eq_true rfl) dX11_load_161 (fun H locs hP hD hS => ?_)
  have hR9 : pq_R (dC, dI) vwCl A [((fa0 2), .inl (cI, 3002, .inl (upd (fun _ => 0) 0 0))), ((fa0 3), .inl (cI, 3002, .inl (upd (fun _ => 0) 0 0))), ((fa0 4), .inl (cI, 3002, .inl (upd (fun _ => 0) 0 0))), ((fa0 5), .inl (cJ, 3002, .inr (.inl (vp_updL (fun _ => 0) 0 0)))), (h0, .inr (11, mo26 fa0))] H := ⟨hP, hD⟩
  have hP := hR9.1
  have hD := hR9.2
  refine lv_aload_n hx hb dX11_load_164 rfl (lv_at hl 2 rfl) ?_
  refine va_get (D := (dC, dI)) (ci := 11) (v := .int 0) (C := RX11) (T := TX11) (N := 122) hx hb hts iq_X11_load_X11 hown hK hP 4 rfl rfl 47 (by decide) (hts (Cond.fieldLink RX11 454 "CodePressModel" "defs" "I") (List.mem_of_getElem? (i := 36) rfl)) (fun _ h9 => h9) rfl dX11_load_165 ?_
  have hP9 := pq_P.pick (wc := [((fa0 2), .inl (cI, 3002, .inl (upd (fun _ => 0) 0 0))), ((fa0 3), .inl (cI, 3002, .inl (upd (fun _ => 0) 0 0))), ((fa0 4), .inl (cI, 3002, .inl (upd (fun _ => 0) 0 0))), ((fa0 5), .inl (cJ, 3002, .inr (.inl (vp_updL (fun _ => 0) 0 0)))), (h0, .inr (11, mo26 fa0))]) hP [0, 1, 2, 3, 4] rfl
  have hD9 := hD.sub (ws' := [((fa0 2), .inl (cI, 3002, .inl (upd (fun _ => 0) 0 0))), ((fa0 3), .inl (cI, 3002, .inl (upd (fun _ => 0) 0 0))), ((fa0 4), .inl (cI, 3002, .inl (upd (fun _ => 0) 0 0))), ((fa0 5), .inl (cJ, 3002, .inr (.inl (vp_updL (fun _ => 0) 0 0)))), (h0, .inr (11, mo26 fa0))]) [0, 1, 2, 3, 4] (by decide) rfl
  refine W.widen (k := 0) (n := 0) (by decide +kernel) (by decide +kernel) ?_
  exact W.iret (v := 0) hx hb hr (fun t ht hW => ⟨⟨0, sq_u [] [], rfl, rfl, pq_B.of ht hP9 hD9⟩, hS.F ht⟩) hS.2.2 dX11_load_168
def wq_X11_load_1 : List Cond := Cond.code yX11_load cX11_load 4 (some .int) :: (([] : List Cond))
set_option maxHeartbeats 4000000 in
set_option maxRecDepth 100000 in
theorem cq_X11_load_1 (l : Launch) (dC : Nat → ClassId) (dI : Nat → Nat → Nat) (cB cI cJ cZ : ClassId) (a0 : Nat) (x0 : Int32) (sz : Nat) (k1 : x0 < 0) : Met l yX11_load wq_X11_load_1 ({ frames := 0, cells := 0, slots := 0, locals := 0 }) (va_Pc [.ref a0, .int x0] (pq_W (dC, dI) vwCl (tyQ cB cI cJ cZ) [] sz)) (va_Qi (fun (r : Int32) (_ : SQ) => r = (-2)) (fun u => pq_B (dC, dI) vwCl [] (va_A [] sz)) (va_A [] sz)) 0 0 (va_A [] sz) := by
  refine Met.ofW (cc := cX11_load) (maxL := 4) (ret := (some .int)) (by decide) rfl ?_
  intro p e s m args below meth c s₁ B hml hv
  obtain ⟨rfl, hsz, hP, hK, hD0⟩ := hv
  have hx := B.exec
  have hb := B.bytes
  have hr := B.returns
  have hts := atoms_spec (ws := wq_X11_load_1) B.pre
  have hown : s.vm.findClass RX11 = some m.cls := findClass_of_methodNamed B.named
  have hlocks := B.notSynchronized
  subst hsz
  have hD := hD0.self (sz := s.heap.size)
  generalize hAe : va_A [] s.heap.size = A at hD ⊢
  have hA : ∀ q : Nat, s.heap.size ≤ q → A q := fun q h => by rw [← hAe]; exact Or.inr h
  have hS : va_S A s.heap s.heap [] := va_S.rf
  have hP : va_P (dC, dI) vwCl [] s.heap := hP
  obtain ⟨H, hH⟩ : ∃ H, H = s.heap := ⟨_, rfl⟩
  rw [← hH] at hP
  have hS : va_S A s.heap H [] := by rw [hH]; exact hS
  have hl := lv_entry ([.ref a0, .int x0]) (n := 4) (Nat.le_of_ble_eq_true rfl)
  rw [lg_entry_eq]
  generalize (lg_sl ([.ref a0, .int x0]) ++ List.replicate (4 - (lg_sl ([.ref a0, .int x0])).length) Slot.unset).toArray = ls at hl ⊢
  have hl : lv_has ls 4 [(0, .ref a0), (1, .int x0)] := hl
  refine pq_heap hH ?_
  refine lv_iload_n hx hb dX11_load_0 rfl (lv_at hl 1 rfl) ?_
  refine lv_if_lt (tgt := 12) hx hb dX11_load_1 (by decide) (fun _ => ?_) (fun c_ => absurd k1 c_)
  refine lv_bipush (v := (-2)) hx hb dX11_load_12 (by decide) ?_
  have hP9 := pq_P.pick (wc := []) hP [] rfl
  have hD9 := hD.sub (ws' := []) [] (by decide) rfl
  refine W.widen (k := 0) (n := 0) (by decide +kernel) (by decide +kernel) ?_
  exact W.iret (v := (-2)) hx hb hr (fun t ht hW => ⟨⟨(-2), sq_u [] [], rfl, rfl, pq_B.of ht hP9 hD9⟩, hS.F ht⟩) hS.2.2 dX11_load_14
def wq_X11_load_2_r1 : List Cond := [Cond.fieldLink RX11 7 "CodePressModel" "taped" "I"]
def wq_X11_load_2 : List Cond := Cond.code yX11_load cX11_load 4 (some .int) :: (wq_X11_load_2_r1 ++ wsX110)
theorem iq_X11_load_2_X11 : ∀ w ∈ wsX110, w ∈ wq_X11_load_2 := fun _ h => List.mem_cons_of_mem _ (List.mem_append_right _ h)
set_option maxHeartbeats 4000000 in
set_option maxRecDepth 100000 in
theorem cq_X11_load_2 (l : Launch) (dC : Nat → ClassId) (dI : Nat → Nat → Nat) (cB cI cJ cZ : ClassId) (h0 : Nat) (x0 : Int32) (fa0 : Nat → Nat) (sz : Nat) (k1 : ¬ x0 < 0) (k2 : 0 < x0) : Met l yX11_load wq_X11_load_2 ({ frames := 0, cells := 0, slots := 0, locals := 0 }) (va_Pc [.ref h0, .int x0] (pq_W (dC, dI) vwCl (tyQ cB cI cJ cZ) [(h0, .inr (11, mo0 fa0))] sz)) (va_Qi (fun (r : Int32) (_ : SQ) => r = (-2)) (fun u => pq_B (dC, dI) vwCl [(h0, .inr (11, mo0 fa0))] (va_A [(h0, .inr (11, mo0 fa0))] sz)) (va_A [(h0, .inr (11, mo0 fa0))] sz)) 0 0 (va_A [(h0, .inr (11, mo0 fa0))] sz) := by
  refine Met.ofW (cc := cX11_load) (maxL := 4) (ret := (some .int)) (by decide) rfl ?_
  intro p e s m args below meth c s₁ B hml hv
  obtain ⟨rfl, hsz, hP, hK, hD0⟩ := hv
  have hx := B.exec
  have hb := B.bytes
  have hr := B.returns
  have hts := atoms_spec (ws := wq_X11_load_2) B.pre
  have hown : s.vm.findClass RX11 = some m.cls := findClass_of_methodNamed B.named
  have hlocks := B.notSynchronized
  subst hsz
  have hD := hD0.self (sz := s.heap.size)
  generalize hAe : va_A [(h0, .inr (11, mo0 fa0))] s.heap.size = A at hD ⊢
  have hA : ∀ q : Nat, s.heap.size ≤ q → A q := fun q h => by rw [← hAe]; exact Or.inr h
  have hS : va_S A s.heap s.heap [] := va_S.rf
  have hP : va_P (dC, dI) vwCl [(h0, .inr (11, mo0 fa0))] s.heap := hP
  obtain ⟨H, hH⟩ : ∃ H, H = s.heap := ⟨_, rfl⟩
  rw [← hH] at hP
  have hS : va_S A s.heap H [] := by rw [hH]; exact hS
  have hl := lv_entry ([.ref h0, .int x0]) (n := 4) (Nat.le_of_ble_eq_true rfl)
  rw [lg_entry_eq]
  generalize (lg_sl ([.ref h0, .int x0]) ++ List.replicate (4 - (lg_sl ([.ref h0, .int x0])).length) Slot.unset).toArray = ls at hl ⊢
  have hl : lv_has ls 4 [(0, .ref h0), (1, .int x0)] := hl
  refine pq_heap hH ?_
  refine lv_iload_n hx hb dX11_load_0 rfl (lv_at hl 1 rfl) ?_
  refine lv_if_lt (tgt := 12) hx hb dX11_load_1 (by decide) (fun c_ => absurd c_ k1) (fun _ => ?_)
  refine lv_iload_n hx hb dX11_load_4 rfl (lv_at hl 1 rfl) ?_
  refine lv_aload_n hx hb dX11_load_5 rfl (lv_at hl 0 rfl) ?_
  refine va_get (D := (dC, dI)) (ci := 11) (v := .int 0) (C := RX11) (T := TX11) (N := 122) hx hb hts iq_X11_load_2_X11 hown hK hP 0 rfl rfl 1 (by decide) (hts (Cond.fieldLink RX11 7 "CodePressModel" "taped" "I") (List.mem_of_getElem? (i := 1) rfl)) (fun _ h9 => h9) rfl dX11_load_6 ?_
  refine lv_icmp_le (tgt := 15) hx hb dX11_load_9 (by decide) (fun c_ => absurd c_ (Int32.not_le.mpr k2)) (fun _ => ?_)
  refine lv_bipush (v := (-2)) hx hb dX11_load_12 (by decide) ?_
  have hP9 := pq_P.pick (wc := [(h0, .inr (11, mo0 fa0))]) hP [0] rfl
  have hD9 := hD.sub (ws' := [(h0, .inr (11, mo0 fa0))]) [0] (by decide) rfl
  refine W.widen (k := 0) (n := 0) (by decide +kernel) (by decide +kernel) ?_
  exact W.iret (v := (-2)) hx hb hr (fun t ht hW => ⟨⟨(-2), sq_u [] [], rfl, rfl, pq_B.of ht hP9 hD9⟩, hS.F ht⟩) hS.2.2 dX11_load_14
def wq_X11_ask : List Cond := Cond.code yX11_ask cX11_ask 7 (some .int) :: (([] : List Cond))
set_option maxHeartbeats 4000000 in
set_option maxRecDepth 100000 in
theorem cq_X11_ask (l : Launch) (dC : Nat → ClassId) (dI : Nat → Nat → Nat) (cB cI cJ cZ : ClassId) (a0 : Nat) (x0 : Int32) (x1 : Int32) (x2 : Int32) (sz : Nat) (k1 : x0 < 0) : Met l yX11_ask wq_X11_ask ({ frames := 0, cells := 0, slots := 0, locals := 0 }) (va_Pc [.ref a0, .int x0, .int x1, .int x2] (pq_W (dC, dI) vwCl (tyQ cB cI cJ cZ) [] sz)) (va_Qi (fun (r : Int32) (_ : SQ) => r = (-2)) (fun u => pq_B (dC, dI) vwCl [] (va_A [] sz)) (va_A [] sz)) 0 0 (va_A [] sz) := by
  refine Met.ofW (cc := cX11_ask) (maxL := 7) (ret := (some .int)) (by decide) rfl ?_
  intro p e s m args below meth c s₁ B hml hv
  obtain ⟨rfl, hsz, hP, hK, hD0⟩ := hv
  have hx := B.exec
  have hb := B.bytes
  have hr := B.returns
  have hts := atoms_spec (ws := wq_X11_ask) B.pre
  have hown : s.vm.findClass RX11 = some m.cls := findClass_of_methodNamed B.named
  have hlocks := B.notSynchronized
  subst hsz
  have hD := hD0.self (sz := s.heap.size)
  generalize hAe : va_A [] s.heap.size = A at hD ⊢
  have hA : ∀ q : Nat, s.heap.size ≤ q → A q := fun q h => by rw [← hAe]; exact Or.inr h
  have hS : va_S A s.heap s.heap [] := va_S.rf
  have hP : va_P (dC, dI) vwCl [] s.heap := hP
  obtain ⟨H, hH⟩ : ∃ H, H = s.heap := ⟨_, rfl⟩
  rw [← hH] at hP
  have hS : va_S A s.heap H [] := by rw [hH]; exact hS
  have hl := lv_entry ([.ref a0, .int x0, .int x1, .int x2]) (n := 7) (Nat.le_of_ble_eq_true rfl)
  rw [lg_entry_eq]
  generalize (lg_sl ([.ref a0, .int x0, .int x1, .int x2]) ++ List.replicate (7 - (lg_sl ([.ref a0, .int x0, .int x1, .int x2])).length) Slot.unset).toArray = ls at hl ⊢
  have hl : lv_has ls 7 [(0, .ref a0), (1, .int x0), (2, .int x1), (3, .int x2)] := hl
  refine pq_heap hH ?_
  refine lv_iload_n hx hb dX11_ask_0 rfl (lv_at hl 1 rfl) ?_
  refine lv_if_lt (tgt := 23) hx hb dX11_ask_1 (by decide) (fun _ => ?_) (fun c_ => absurd k1 c_)
  refine lv_bipush (v := (-2)) hx hb dX11_ask_23 (by decide) ?_
  have hP9 := pq_P.pick (wc := []) hP [] rfl
  have hD9 := hD.sub (ws' := []) [] (by decide) rfl
  refine W.widen (k := 0) (n := 0) (by decide +kernel) (by decide +kernel) ?_
  exact W.iret (v := (-2)) hx hb hr (fun t ht hW => ⟨⟨(-2), sq_u [] [], rfl, rfl, pq_B.of ht hP9 hD9⟩, hS.F ht⟩) hS.2.2 dX11_ask_25
def wq_X11_ask_1_r1 : List Cond := [Cond.fieldLink RX11 7 "CodePressModel" "taped" "I"]
def wq_X11_ask_1 : List Cond := Cond.code yX11_ask cX11_ask 7 (some .int) :: (wq_X11_ask_1_r1 ++ wsX110)
theorem iq_X11_ask_1_X11 : ∀ w ∈ wsX110, w ∈ wq_X11_ask_1 := fun _ h => List.mem_cons_of_mem _ (List.mem_append_right _ h)
set_option maxHeartbeats 4000000 in
set_option maxRecDepth 100000 in
theorem cq_X11_ask_1 (l : Launch) (dC : Nat → ClassId) (dI : Nat → Nat → Nat) (cB cI cJ cZ : ClassId) (h0 : Nat) (x0 : Int32) (x1 : Int32) (x2 : Int32) (fa0 : Nat → Nat) (sz : Nat) (k1 : ¬ x0 < 0) (k2 : 0 < x0) : Met l yX11_ask wq_X11_ask_1 ({ frames := 0, cells := 0, slots := 0, locals := 0 }) (va_Pc [.ref h0, .int x0, .int x1, .int x2] (pq_W (dC, dI) vwCl (tyQ cB cI cJ cZ) [(h0, .inr (11, mo0 fa0))] sz)) (va_Qi (fun (r : Int32) (_ : SQ) => r = (-2)) (fun u => pq_B (dC, dI) vwCl [(h0, .inr (11, mo0 fa0))] (va_A [(h0, .inr (11, mo0 fa0))] sz)) (va_A [(h0, .inr (11, mo0 fa0))] sz)) 0 0 (va_A [(h0, .inr (11, mo0 fa0))] sz) := by
  refine Met.ofW (cc := cX11_ask) (maxL := 7) (ret := (some .int)) (by decide) rfl ?_
  intro p e s m args below meth c s₁ B hml hv
  obtain ⟨rfl, hsz, hP, hK, hD0⟩ := hv
  have hx := B.exec
  have hb := B.bytes
  have hr := B.returns
  have hts := atoms_spec (ws := wq_X11_ask_1) B.pre
  have hown : s.vm.findClass RX11 = some m.cls := findClass_of_methodNamed B.named
  have hlocks := B.notSynchronized
  subst hsz
  have hD := hD0.self (sz := s.heap.size)
  generalize hAe : va_A [(h0, .inr (11, mo0 fa0))] s.heap.size = A at hD ⊢
  have hA : ∀ q : Nat, s.heap.size ≤ q → A q := fun q h => by rw [← hAe]; exact Or.inr h
  have hS : va_S A s.heap s.heap [] := va_S.rf
  have hP : va_P (dC, dI) vwCl [(h0, .inr (11, mo0 fa0))] s.heap := hP
  obtain ⟨H, hH⟩ : ∃ H, H = s.heap := ⟨_, rfl⟩
  rw [← hH] at hP
  have hS : va_S A s.heap H [] := by rw [hH]; exact hS
  have hl := lv_entry ([.ref h0, .int x0, .int x1, .int x2]) (n := 7) (Nat.le_of_ble_eq_true rfl)
  rw [lg_entry_eq]
  generalize (lg_sl ([.ref h0, .int x0, .int x1, .int x2]) ++ List.replicate (7 - (lg_sl ([.ref h0, .int x0, .int x1, .int x2])).length) Slot.unset).toArray = ls at hl ⊢
  have hl : lv_has ls 7 [(0, .ref h0), (1, .int x0), (2, .int x1), (3, .int x2)] := hl
  refine pq_heap hH ?_
  refine lv_iload_n hx hb dX11_ask_0 rfl (lv_at hl 1 rfl) ?_
  refine lv_if_lt (tgt := 23) hx hb dX11_ask_1 (by decide) (fun c_ => absurd c_ k1) (fun _ => ?_)
  refine lv_iload_n hx hb dX11_ask_4 rfl (lv_at hl 1 rfl) ?_
  refine lv_aload_n hx hb dX11_ask_5 rfl (lv_at hl 0 rfl) ?_
  refine va_get (D := (dC, dI)) (ci := 11) (v := .int 0) (C := RX11) (T := TX11) (N := 122) hx hb hts iq_X11_ask_1_X11 hown hK hP 0 rfl rfl 1 (by decide) (hts (Cond.fieldLink RX11 7 "CodePressModel" "taped" "I") (List.mem_of_getElem? (i := 1) rfl)) (fun _ h9 => h9) rfl dX11_ask_6 ?_
  refine lv_icmp_gt (tgt := 23) hx hb dX11_ask_9 (by decide) (fun _ => ?_) (fun c_ => absurd k2 c_)
  refine lv_bipush (v := (-2)) hx hb dX11_ask_23 (by decide) ?_
  have hP9 := pq_P.pick (wc := [(h0, .inr (11, mo0 fa0))]) hP [0] rfl
  have hD9 := hD.sub (ws' := [(h0, .inr (11, mo0 fa0))]) [0] (by decide) rfl
  refine W.widen (k := 0) (n := 0) (by decide +kernel) (by decide +kernel) ?_
  exact W.iret (v := (-2)) hx hb hr (fun t ht hW => ⟨⟨(-2), sq_u [] [], rfl, rfl, pq_B.of ht hP9 hD9⟩, hS.F ht⟩) hS.2.2 dX11_ask_25
def wq_X11_ask_2_r1 : List Cond := [Cond.fieldLink RX11 7 "CodePressModel" "taped" "I"]
def wq_X11_ask_2 : List Cond := Cond.code yX11_ask cX11_ask 7 (some .int) :: (wq_X11_ask_2_r1 ++ wsX110)
theorem iq_X11_ask_2_X11 : ∀ w ∈ wsX110, w ∈ wq_X11_ask_2 := fun _ h => List.mem_cons_of_mem _ (List.mem_append_right _ h)
set_option maxHeartbeats 4000000 in
set_option maxRecDepth 100000 in
theorem cq_X11_ask_2 (l : Launch) (dC : Nat → ClassId) (dI : Nat → Nat → Nat) (cB cI cJ cZ : ClassId) (h0 : Nat) (x0 : Int32) (x1 : Int32) (fa0 : Nat → Nat) (sz : Nat) (k1 : x0 < 0) : Met l yX11_ask wq_X11_ask_2 ({ frames := 0, cells := 0, slots := 0, locals := 0 }) (va_Pc [.ref h0, .int 0, .int x0, .int x1] (pq_W (dC, dI) vwCl (tyQ cB cI cJ cZ) [(h0, .inr (11, mo0 fa0))] sz)) (va_Qi (fun (r : Int32) (_ : SQ) => r = (-2)) (fun u => pq_B (dC, dI) vwCl [(h0, .inr (11, mo0 fa0))] (va_A [(h0, .inr (11, mo0 fa0))] sz)) (va_A [(h0, .inr (11, mo0 fa0))] sz)) 0 0 (va_A [(h0, .inr (11, mo0 fa0))] sz) := by
  refine Met.ofW (cc := cX11_ask) (maxL := 7) (ret := (some .int)) (by decide) rfl ?_
  intro p e s m args below meth c s₁ B hml hv
  obtain ⟨rfl, hsz, hP, hK, hD0⟩ := hv
  have hx := B.exec
  have hb := B.bytes
  have hr := B.returns
  have hts := atoms_spec (ws := wq_X11_ask_2) B.pre
  have hown : s.vm.findClass RX11 = some m.cls := findClass_of_methodNamed B.named
  have hlocks := B.notSynchronized
  subst hsz
  have hD := hD0.self (sz := s.heap.size)
  generalize hAe : va_A [(h0, .inr (11, mo0 fa0))] s.heap.size = A at hD ⊢
  have hA : ∀ q : Nat, s.heap.size ≤ q → A q := fun q h => by rw [← hAe]; exact Or.inr h
  have hS : va_S A s.heap s.heap [] := va_S.rf
  have hP : va_P (dC, dI) vwCl [(h0, .inr (11, mo0 fa0))] s.heap := hP
  obtain ⟨H, hH⟩ : ∃ H, H = s.heap := ⟨_, rfl⟩
  rw [← hH] at hP
  have hS : va_S A s.heap H [] := by rw [hH]; exact hS
  have hl := lv_entry ([.ref h0, .int 0, .int x0, .int x1]) (n := 7) (Nat.le_of_ble_eq_true rfl)
  rw [lg_entry_eq]
  generalize (lg_sl ([.ref h0, .int 0, .int x0, .int x1]) ++ List.replicate (7 - (lg_sl ([.ref h0, .int 0, .int x0, .int x1])).length) Slot.unset).toArray = ls at hl ⊢
  have hl : lv_has ls 7 [(0, .ref h0), (1, .int 0), (2, .int x0), (3, .int x1)] := hl
  refine pq_heap hH ?_
  refine lv_iload_n hx hb dX11_ask_0 rfl (lv_at hl 1 rfl) ?_
  refine lv_if_lt (tgt := 23) hx hb dX11_ask_1 (by decide) (fun c_ => absurd c_ (by decide)) (fun _ => ?_)
  refine lv_iload_n hx hb dX11_ask_4 rfl (lv_at hl 1 rfl) ?_
  refine lv_aload_n hx hb dX11_ask_5 rfl (lv_at hl 0 rfl) ?_
  refine va_get (D := (dC, dI)) (ci := 11) (v := .int 0) (C := RX11) (T := TX11) (N := 122) hx hb hts iq_X11_ask_2_X11 hown hK hP 0 rfl rfl 1 (by decide) (hts (Cond.fieldLink RX11 7 "CodePressModel" "taped" "I") (List.mem_of_getElem? (i := 1) rfl)) (fun _ h9 => h9) rfl dX11_ask_6 ?_
  refine lv_icmp_gt (tgt := 23) hx hb dX11_ask_9 (by decide) (fun c_ => absurd c_ (by decide)) (fun _ => ?_)
  refine lv_iload_n hx hb dX11_ask_12 rfl (lv_at hl 2 rfl) ?_
  refine lv_if_lt (tgt := 23) hx hb dX11_ask_13 (by decide) (fun _ => ?_) (fun c_ => absurd k1 c_)
  refine lv_bipush (v := (-2)) hx hb dX11_ask_23 (by decide) ?_
  have hP9 := pq_P.pick (wc := [(h0, .inr (11, mo0 fa0))]) hP [0] rfl
  have hD9 := hD.sub (ws' := [(h0, .inr (11, mo0 fa0))]) [0] (by decide) rfl
  refine W.widen (k := 0) (n := 0) (by decide +kernel) (by decide +kernel) ?_
  exact W.iret (v := (-2)) hx hb hr (fun t ht hW => ⟨⟨(-2), sq_u [] [], rfl, rfl, pq_B.of ht hP9 hD9⟩, hS.F ht⟩) hS.2.2 dX11_ask_25
def wq_X11_ask_3_r1 : List Cond := [Cond.fieldLink RX11 7 "CodePressModel" "taped" "I"]
def wq_X11_ask_3 : List Cond := Cond.code yX11_ask cX11_ask 7 (some .int) :: (wq_X11_ask_3_r1 ++ wsX110)
theorem iq_X11_ask_3_X11 : ∀ w ∈ wsX110, w ∈ wq_X11_ask_3 := fun _ h => List.mem_cons_of_mem _ (List.mem_append_right _ h)
set_option maxHeartbeats 4000000 in
set_option maxRecDepth 100000 in
theorem cq_X11_ask_3 (l : Launch) (dC : Nat → ClassId) (dI : Nat → Nat → Nat) (cB cI cJ cZ : ClassId) (h0 : Nat) (x0 : Int32) (x1 : Int32) (fa0 : Nat → Nat) (sz : Nat) (k1 : ¬ x0 < 0) (k2 : ¬ x0 ≤ 500) (k3 : 500 < x0) : Met l yX11_ask wq_X11_ask_3 ({ frames := 0, cells := 0, slots := 0, locals := 0 }) (va_Pc [.ref h0, .int 0, .int x0, .int x1] (pq_W (dC, dI) vwCl (tyQ cB cI cJ cZ) [(h0, .inr (11, mo0 fa0))] sz)) (va_Qi (fun (r : Int32) (_ : SQ) => r = (-2)) (fun u => pq_B (dC, dI) vwCl [(h0, .inr (11, mo0 fa0))] (va_A [(h0, .inr (11, mo0 fa0))] sz)) (va_A [(h0, .inr (11, mo0 fa0))] sz)) 0 0 (va_A [(h0, .inr (11, mo0 fa0))] sz) := by
  refine Met.ofW (cc := cX11_ask) (maxL := 7) (ret := (some .int)) (by decide) rfl ?_
  intro p e s m args below meth c s₁ B hml hv
  obtain ⟨rfl, hsz, hP, hK, hD0⟩ := hv
  have hx := B.exec
  have hb := B.bytes
  have hr := B.returns
  have hts := atoms_spec (ws := wq_X11_ask_3) B.pre
  have hown : s.vm.findClass RX11 = some m.cls := findClass_of_methodNamed B.named
  have hlocks := B.notSynchronized
  subst hsz
  have hD := hD0.self (sz := s.heap.size)
  generalize hAe : va_A [(h0, .inr (11, mo0 fa0))] s.heap.size = A at hD ⊢
  have hA : ∀ q : Nat, s.heap.size ≤ q → A q := fun q h => by rw [← hAe]; exact Or.inr h
  have hS : va_S A s.heap s.heap [] := va_S.rf
  have hP : va_P (dC, dI) vwCl [(h0, .inr (11, mo0 fa0))] s.heap := hP
  obtain ⟨H, hH⟩ : ∃ H, H = s.heap := ⟨_, rfl⟩
  rw [← hH] at hP
  have hS : va_S A s.heap H [] := by rw [hH]; exact hS
  have hl := lv_entry ([.ref h0, .int 0, .int x0, .int x1]) (n := 7) (Nat.le_of_ble_eq_true rfl)
  rw [lg_entry_eq]
  generalize (lg_sl ([.ref h0, .int 0, .int x0, .int x1]) ++ List.replicate (7 - (lg_sl ([.ref h0, .int 0, .int x0, .int x1])).length) Slot.unset).toArray = ls at hl ⊢
  have hl : lv_has ls 7 [(0, .ref h0), (1, .int 0), (2, .int x0), (3, .int x1)] := hl
  refine pq_heap hH ?_
  refine lv_iload_n hx hb dX11_ask_0 rfl (lv_at hl 1 rfl) ?_
  refine lv_if_lt (tgt := 23) hx hb dX11_ask_1 (by decide) (fun c_ => absurd c_ (by decide)) (fun _ => ?_)
  refine lv_iload_n hx hb dX11_ask_4 rfl (lv_at hl 1 rfl) ?_
  refine lv_aload_n hx hb dX11_ask_5 rfl (lv_at hl 0 rfl) ?_
  refine va_get (D := (dC, dI)) (ci := 11) (v := .int 0) (C := RX11) (T := TX11) (N := 122) hx hb hts iq_X11_ask_3_X11 hown hK hP 0 rfl rfl 1 (by decide) (hts (Cond.fieldLink RX11 7 "CodePressModel" "taped" "I") (List.mem_of_getElem? (i := 1) rfl)) (fun _ h9 => h9) rfl dX11_ask_6 ?_
  refine lv_icmp_gt (tgt := 23) hx hb dX11_ask_9 (by decide) (fun c_ => absurd c_ (by decide)) (fun _ => ?_)
  refine lv_iload_n hx hb dX11_ask_12 rfl (lv_at hl 2 rfl) ?_
  refine lv_if_lt (tgt := 23) hx hb dX11_ask_13 (by decide) (fun c_ => absurd c_ k1) (fun _ => ?_)
  refine lv_iload_n hx hb dX11_ask_16 rfl (lv_at hl 2 rfl) ?_
  refine lv_sipush (v := 500) hx hb dX11_ask_17 (by decide) ?_
  refine lv_icmp_le (tgt := 26) hx hb dX11_ask_20 (by decide) (fun c_ => absurd c_ k2) (fun _ => ?_)
  refine lv_bipush (v := (-2)) hx hb dX11_ask_23 (by decide) ?_
  have hP9 := pq_P.pick (wc := [(h0, .inr (11, mo0 fa0))]) hP [0] rfl
  have hD9 := hD.sub (ws' := [(h0, .inr (11, mo0 fa0))]) [0] (by decide) rfl
  refine W.widen (k := 0) (n := 0) (by decide +kernel) (by decide +kernel) ?_
  exact W.iret (v := (-2)) hx hb hr (fun t ht hW => ⟨⟨(-2), sq_u [] [], rfl, rfl, pq_B.of ht hP9 hD9⟩, hS.F ht⟩) hS.2.2 dX11_ask_25
def wq_X11_token_1_r1 : List Cond := [Cond.fieldLink RX11 25 "CodePressModel" "sort" "[I", Cond.fieldLink RX11 260 "CodePressModel" "tokens" "I", Cond.fieldLink RX11 28 "CodePressModel" "at" "[I", Cond.fieldLink RX11 31 "CodePressModel" "value" "[I", Cond.fieldLink RX11 34 "CodePressModel" "name" "[J"]
def wq_X11_token_1 : List Cond := Cond.code yX11_token cX11_token 4 none :: (wq_X11_token_1_r1 ++ wsX110)
theorem iq_X11_token_1_X11 : ∀ w ∈ wsX110, w ∈ wq_X11_token_1 := fun _ h => List.mem_cons_of_mem _ (List.mem_append_right _ h)
set_option maxHeartbeats 4000000 in
set_option maxRecDepth 100000 in
theorem cq_X11_token_1 (l : Launch) (dC : Nat → ClassId) (dI : Nat → Nat → Nat) (cB cI cJ cZ : ClassId) (h0 : Nat) (fa0 : Nat → Nat) (sz : Nat) : Met l yX11_token wq_X11_token_1 ({ frames := 0, cells := 0, slots := 0, locals := 0 }) (va_Pc [.ref h0, .int 0, .int 0, .int 0] (pq_W (dC, dI) vwCl (tyQ cB cI cJ cZ) [(h0, .inr (11, mo0 fa0)), ((fa0 2), .inl (cI, 3002, .inl (fun _ => 0))), ((fa0 3), .inl (cI, 3002, .inl (fun _ => 0))), ((fa0 4), .inl (cI, 3002, .inl (fun _ => 0))), ((fa0 5), .inl (cJ, 3002, .inr (.inl (fun _ => 0))))] sz)) (va_Qv (fun (_ : SQ) => True) (fun u => pq_B (dC, dI) vwCl [(h0, .inr (11, mo27 fa0)), ((fa0 2), .inl (cI, 3002, .inl (upd (fun _ => 0) 0 0))), ((fa0 3), .inl (cI, 3002, .inl (upd (fun _ => 0) 0 0))), ((fa0 4), .inl (cI, 3002, .inl (upd (fun _ => 0) 0 0))), ((fa0 5), .inl (cJ, 3002, .inr (.inl (vp_updL (fun _ => 0) 0 0))))] (va_A [(h0, .inr (11, mo0 fa0)), ((fa0 2), .inl (cI, 3002, .inl (fun _ => 0))), ((fa0 3), .inl (cI, 3002, .inl (fun _ => 0))), ((fa0 4), .inl (cI, 3002, .inl (fun _ => 0))), ((fa0 5), .inl (cJ, 3002, .inr (.inl (fun _ => 0))))] sz)) (va_A [(h0, .inr (11, mo0 fa0)), ((fa0 2), .inl (cI, 3002, .inl (fun _ => 0))), ((fa0 3), .inl (cI, 3002, .inl (fun _ => 0))), ((fa0 4), .inl (cI, 3002, .inl (fun _ => 0))), ((fa0 5), .inl (cJ, 3002, .inr (.inl (fun _ => 0))))] sz)) 0 0 (va_A [(h0, .inr (11, mo0 fa0)), ((fa0 2), .inl (cI, 3002, .inl (fun _ => 0))), ((fa0 3), .inl (cI, 3002, .inl (fun _ => 0))), ((fa0 4), .inl (cI, 3002, .inl (fun _ => 0))), ((fa0 5), .inl (cJ, 3002, .inr (.inl (fun _ => 0))))] sz) := by
  refine Met.ofW (cc := cX11_token) (maxL := 4) (ret := none) (by decide) rfl ?_
  intro p e s m args below meth c s₁ B hml hv
  obtain ⟨rfl, hsz, hP, hK, hD0⟩ := hv
  have hx := B.exec
  have hb := B.bytes
  have hr := B.returns
  have hts := atoms_spec (ws := wq_X11_token_1) B.pre
  have hown : s.vm.findClass RX11 = some m.cls := findClass_of_methodNamed B.named
  have hlocks := B.notSynchronized
  subst hsz
  have hD := hD0.self (sz := s.heap.size)
  generalize hAe : va_A [(h0, .inr (11, mo0 fa0)), ((fa0 2), .inl (cI, 3002, .inl (fun _ => 0))), ((fa0 3), .inl (cI, 3002, .inl (fun _ => 0))), ((fa0 4), .inl (cI, 3002, .inl (fun _ => 0))), ((fa0 5), .inl (cJ, 3002, .inr (.inl (fun _ => 0))))] s.heap.size = A at hD ⊢
  have hA : ∀ q : Nat, s.heap.size ≤ q → A q := fun q h => by rw [← hAe]; exact Or.inr h
  have hS : va_S A s.heap s.heap [] := va_S.rf
  have hP : va_P (dC, dI) vwCl [(h0, .inr (11, mo0 fa0)), ((fa0 2), .inl (cI, 3002, .inl (fun _ => 0))), ((fa0 3), .inl (cI, 3002, .inl (fun _ => 0))), ((fa0 4), .inl (cI, 3002, .inl (fun _ => 0))), ((fa0 5), .inl (cJ, 3002, .inr (.inl (fun _ => 0))))] s.heap := hP
  obtain ⟨H, hH⟩ : ∃ H, H = s.heap := ⟨_, rfl⟩
  rw [← hH] at hP
  have hS : va_S A s.heap H [] := by rw [hH]; exact hS
  have hl := lv_entry ([.ref h0, .int 0, .int 0, .int 0]) (n := 4) (Nat.le_of_ble_eq_true rfl)
  rw [lg_entry_eq]
  generalize (lg_sl ([.ref h0, .int 0, .int 0, .int 0]) ++ List.replicate (4 - (lg_sl ([.ref h0, .int 0, .int 0, .int 0])).length) Slot.unset).toArray = ls at hl ⊢
  have hl : lv_has ls 4 [(0, .ref h0), (1, .int 0), (2, .int 0), (3, .int 0)] := hl
  refine pq_heap hH ?_
  refine lv_aload_n hx hb dX11_token_0 rfl (lv_at hl 0 rfl) ?_
  refine va_get (D := (dC, dI)) (ci := 11) (v := .ref (fa0 2)) (C := RX11) (T := TX11) (N := 122) hx hb hts iq_X11_token_1_X11 hown hK hP 0 rfl rfl 3 (by decide) (hts (Cond.fieldLink RX11 25 "CodePressModel" "sort" "[I") (List.mem_of_getElem? (i := 1) rfl)) (fun _ h9 => h9) rfl dX11_token_1 ?_
  refine lv_aload_n hx hb dX11_token_4 rfl (lv_at hl 0 rfl) ?_
  refine va_get (D := (dC, dI)) (ci := 11) (v := .int 0) (C := RX11) (T := TX11) (N := 122) hx hb hts iq_X11_token_1_X11 hown hK hP 0 rfl rfl 7 (by decide) (hts (Cond.fieldLink RX11 260 "CodePressModel" "tokens" "I") (List.mem_of_getElem? (i := 2) rfl)) (fun _ h9 => h9) rfl dX11_token_5 ?_
  refine lv_iload_n hx hb dX11_token_8 rfl (lv_at hl 1 rfl) ?_
  refine va_iast hx hb hK hP hD hS 1 1 rfl rfl (pq_in (by decide)) dX11_token_9 (fun H locs hP hD hS => ?_)
  have hR9 : pq_R (dC, dI) vwCl A [(h0, .inr (11, mo0 fa0)), ((fa0 2), .inl (cI, 3002, .inl (upd (fun _ => 0) 0 0))), ((fa0 3), .inl (cI, 3002, .inl (fun _ => 0))), ((fa0 4), .inl (cI, 3002, .inl (fun _ => 0))), ((fa0 5), .inl (cJ, 3002, .inr (.inl (fun _ => 0))))] H := ⟨hP, hD⟩
  have hP := hR9.1
  have hD := hR9.2
  refine lv_aload_n hx hb dX11_token_10 rfl (lv_at hl 0 rfl) ?_
  refine va_get (D := (dC, dI)) (ci := 11) (v := .ref (fa0 3)) (C := RX11) (T := TX11) (N := 122) hx hb hts iq_X11_token_1_X11 hown hK hP 0 rfl rfl 4 (by decide) (hts (Cond.fieldLink RX11 28 "CodePressModel" "at" "[I") (List.mem_of_getElem? (i := 3) rfl)) (fun _ h9 => h9) rfl dX11_token_11 ?_
  refine lv_aload_n hx hb dX11_token_14 rfl (lv_at hl 0 rfl) ?_
  refine va_get (D := (dC, dI)) (ci := 11) (v := .int 0) (C := RX11) (T := TX11) (N := 122) hx hb hts iq_X11_token_1_X11 hown hK hP 0 rfl rfl 7 (by decide) (hts (Cond.fieldLink RX11 260 "CodePressModel" "tokens" "I") (List.mem_of_getElem? (i := 2) rfl)) (fun _ h9 => h9) rfl dX11_token_15 ?_
  refine lv_iload_n hx hb dX11_token_18 rfl (lv_at hl 2 rfl) ?_
  refine va_iast hx hb hK hP hD hS 2 1 rfl rfl (pq_in (by decide)) dX11_token_19 (fun H locs hP hD hS => ?_)
  have hR9 : pq_R (dC, dI) vwCl A [(h0, .inr (11, mo0 fa0)), ((fa0 2), .inl (cI, 3002, .inl (upd (fun _ => 0) 0 0))), ((fa0 3), .inl (cI, 3002, .inl (upd (fun _ => 0) 0 0))), ((fa0 4), .inl (cI, 3002, .inl (fun _ => 0))), ((fa0 5), .inl (cJ, 3002, .inr (.inl (fun _ => 0))))] H := ⟨hP, hD⟩
  have hP := hR9.1
  have hD := hR9.2
  refine lv_aload_n hx hb dX11_token_20 rfl (lv_at hl 0 rfl) ?_
  refine va_get (D := (dC, dI)) (ci := 11) (v := .ref (fa0 4)) (C := RX11) (T := TX11) (N := 122) hx hb hts iq_X11_token_1_X11 hown hK hP 0 rfl rfl 5 (by decide) (hts (Cond.fieldLink RX11 31 "CodePressModel" "value" "[I") (List.mem_of_getElem? (i := 4) rfl)) (fun _ h9 => h9) rfl dX11_token_21 ?_
  refine lv_aload_n hx hb dX11_token_24 rfl (lv_at hl 0 rfl) ?_
  refine va_get (D := (dC, dI)) (ci := 11) (v := .int 0) (C := RX11) (T := TX11) (N := 122) hx hb hts iq_X11_token_1_X11 hown hK hP 0 rfl rfl 7 (by decide) (hts (Cond.fieldLink RX11 260 "CodePressModel" "tokens" "I") (List.mem_of_getElem? (i := 2) rfl)) (fun _ h9 => h9) rfl dX11_token_25 ?_
  refine lv_iload_n hx hb dX11_token_28 rfl (lv_at hl 3 rfl) ?_
  refine va_iast hx hb hK hP hD hS 3 1 rfl rfl (pq_in (by decide)) dX11_token_29 (fun H locs hP hD hS => ?_)
  have hR9 : pq_R (dC, dI) vwCl A [(h0, .inr (11, mo0 fa0)), ((fa0 2), .inl (cI, 3002, .inl (upd (fun _ => 0) 0 0))), ((fa0 3), .inl (cI, 3002, .inl (upd (fun _ => 0) 0 0))), ((fa0 4), .inl (cI, 3002, .inl (upd (fun _ => 0) 0 0))), ((fa0 5), .inl (cJ, 3002, .inr (.inl (fun _ => 0))))] H := ⟨hP, hD⟩
  have hP := hR9.1
  have hD := hR9.2
  refine lv_aload_n hx hb dX11_token_30 rfl (lv_at hl 0 rfl) ?_
  refine va_get (D := (dC, dI)) (ci := 11) (v := .ref (fa0 5)) (C := RX11) (T := TX11) (N := 122) hx hb hts iq_X11_token_1_X11 hown hK hP 0 rfl rfl 6 (by decide) (hts (Cond.fieldLink RX11 34 "CodePressModel" "name" "[J") (List.mem_of_getElem? (i := 5) rfl)) (fun _ h9 => h9) rfl dX11_token_31 ?_
  refine lv_aload_n hx hb dX11_token_34 rfl (lv_at hl 0 rfl) ?_
  refine va_get (D := (dC, dI)) (ci := 11) (v := .int 0) (C := RX11) (T := TX11) (N := 122) hx hb hts iq_X11_token_1_X11 hown hK hP 0 rfl rfl 7 (by decide) (hts (Cond.fieldLink RX11 260 "CodePressModel" "tokens" "I") (List.mem_of_getElem? (i := 2) rfl)) (fun _ h9 => h9) rfl dX11_token_35 ?_
  refine lv_lconst (v := 0) hx hb dX11_token_38 (by decide) ?_
  refine va_last hx hb hK hP hD hS 4 2 rfl rfl (pq_in (by decide)) dX11_token_39 (fun H locs hP hD hS => ?_)
  have hR9 : pq_R (dC, dI) vwCl A [(h0, .inr (11, mo0 fa0)), ((fa0 2), .inl (cI, 3002, .inl (upd (fun _ => 0) 0 0))), ((fa0 3), .inl (cI, 3002, .inl (upd (fun _ => 0) 0 0))), ((fa0 4), .inl (cI, 3002, .inl (upd (fun _ => 0) 0 0))), ((fa0 5), .inl (cJ, 3002, .inr (.inl (vp_updL (fun _ => 0) 0 0))))] H := ⟨hP, hD⟩
  have hP := hR9.1
  have hD := hR9.2
  refine lv_aload_n hx hb dX11_token_40 rfl (lv_at hl 0 rfl) ?_
  refine lv_dup hx hb dX11_token_41 rfl ?_
  refine va_get (D := (dC, dI)) (ci := 11) (v := .int 0) (C := RX11) (T := TX11) (N := 122) hx hb hts iq_X11_token_1_X11 hown hK hP 0 rfl rfl 7 (by decide) (hts (Cond.fieldLink RX11 260 "CodePressModel" "tokens" "I") (List.mem_of_getElem? (i := 2) rfl)) (fun _ h9 => h9) rfl dX11_token_42 ?_
  refine lv_iconst (v := 1) hx hb dX11_token_45 (by decide) ?_
  refine lv_iadd hx hb dX11_token_46 ?_
  refine lv_topi (fun x1 ex1 => ?_)
  obtain rfl : x1 = 1 := ex1.trans (by decide)
  refine va_put (D := (dC, dI)) (ci := 11) (v := .int 1) (ty := .int) (C := RX11) (T := TX11) (N := 122) hx hb hts iq_X11_token_1_X11 tyX11 tyX11_ok nmX11 hown hK hP hD hS 0 rfl rfl 7 (by decide) (hts (Cond.fieldLink RX11 260 "CodePressModel" "tokens" "I") (List.mem_of_getElem? (i := 2) rfl)) (fun _ h9 => h9) rfl (by decide +kernel) rfl rfl (Nat.le_of_ble_eq_true rfl) dX11_token_47 (fun H locs hP hD hS => ?_)
  have hR9 : pq_R (dC, dI) vwCl A [(h0, .inr (11, mo27 fa0)), ((fa0 2), .inl (cI, 3002, .inl (upd (fun _ => 0) 0 0))), ((fa0 3), .inl (cI, 3002, .inl (upd (fun _ => 0) 0 0))), ((fa0 4), .inl (cI, 3002, .inl (upd (fun _ => 0) 0 0))), ((fa0 5), .inl (cJ, 3002, .inr (.inl (vp_updL (fun _ => 0) 0 0))))] H := ⟨hP, hD⟩
  have hP := hR9.1
  have hD := hR9.2
  have hP9 := pq_P.pick (wc := [(h0, .inr (11, mo27 fa0)), ((fa0 2), .inl (cI, 3002, .inl (upd (fun _ => 0) 0 0))), ((fa0 3), .inl (cI, 3002, .inl (upd (fun _ => 0) 0 0))), ((fa0 4), .inl (cI, 3002, .inl (upd (fun _ => 0) 0 0))), ((fa0 5), .inl (cJ, 3002, .inr (.inl (vp_updL (fun _ => 0) 0 0))))]) hP [0, 1, 2, 3, 4] rfl
  have hD9 := hD.sub (ws' := [(h0, .inr (11, mo27 fa0)), ((fa0 2), .inl (cI, 3002, .inl (upd (fun _ => 0) 0 0))), ((fa0 3), .inl (cI, 3002, .inl (upd (fun _ => 0) 0 0))), ((fa0 4), .inl (cI, 3002, .inl (upd (fun _ => 0) 0 0))), ((fa0 5), .inl (cJ, 3002, .inr (.inl (vp_updL (fun _ => 0) 0 0))))]) [0, 1, 2, 3, 4] (by decide) rfl
  refine W.widen (k := 0) (n := 0) (by decide +kernel) (by decide +kernel) ?_
  exact W.vret hx hb hr (fun t ht hW => ⟨⟨sq_u [] [], rfl, trivial, pq_B.of ht hP9 hD9⟩, hS.F ht⟩) hS.2.2 dX11_token_50
def wq_X11_cut_1_r1 : List Cond := [Cond.fieldLink RX11 257 "CodePressModel" "bytes" "I", Cond.fieldLink RX11 260 "CodePressModel" "tokens" "I", Cond.code yX11_token cX11_token 4 none, Cond.fieldLink RX11 25 "CodePressModel" "sort" "[I", Cond.fieldLink RX11 28 "CodePressModel" "at" "[I", Cond.fieldLink RX11 31 "CodePressModel" "value" "[I", Cond.fieldLink RX11 34 "CodePressModel" "name" "[J", Cond.methodLink RX11 274 yX11_token, Cond.instanceMethod yX11_token, Cond.selects RX11 yX11_token yX11_token, Cond.initialized RX11]
def wq_X11_cut_1 : List Cond := Cond.code yX11_cut cX11_cut 4 none :: (wq_X11_cut_1_r1 ++ wsX110)
theorem iq_X11_cut_1_X11 : ∀ w ∈ wsX110, w ∈ wq_X11_cut_1 := fun _ h => List.mem_cons_of_mem _ (List.mem_append_right _ h)
set_option maxRecDepth 20000 in
theorem gq_X11_cut_1_X11_token_1_274_0 : GoodIn wq_X11_cut_1 (Cond.code yX11_token cX11_token 4 none :: wq_X11_token_1_r1) := goodIn_r _ [3, 4, 2, 5, 6, 7] (by decide +kernel) (by decide +kernel)
set_option maxRecDepth 20000 in
theorem gq_X11_cut_1_X11_token_1_274 : GoodIn wq_X11_cut_1 (wsV RX11 274 RX11 yX11_token wq_X11_token_1) := goodIn_app (goodIn_r _ [8, 9, 10, 11] (by decide +kernel) (by decide +kernel)) (goodIn_ca gq_X11_cut_1_X11_token_1_274_0 (goodIn_sub iq_X11_cut_1_X11 guX11))
set_option maxHeartbeats 4000000 in
set_option maxRecDepth 100000 in
theorem cq_X11_cut_1 (l : Launch) (dC : Nat → ClassId) (dI : Nat → Nat → Nat) (cB cI cJ cZ : ClassId) (h0 : Nat) (fa0 : Nat → Nat) (sz : Nat) : Met l yX11_cut wq_X11_cut_1 ({ frames := 1, cells := 0, slots := 0, locals := 23 }) (va_Pc [.ref h0, .int 0] (pq_W (dC, dI) vwCl (tyQ cB cI cJ cZ) [(h0, .inr (11, mo0 fa0)), ((fa0 2), .inl (cI, 3002, .inl (fun _ => 0))), ((fa0 3), .inl (cI, 3002, .inl (fun _ => 0))), ((fa0 4), .inl (cI, 3002, .inl (fun _ => 0))), ((fa0 5), .inl (cJ, 3002, .inr (.inl (fun _ => 0))))] sz)) (va_Qv (fun (_ : SQ) => True) (fun u => pq_B (dC, dI) vwCl [(h0, .inr (11, mo27 fa0)), ((fa0 2), .inl (cI, 3002, .inl (upd (fun _ => 0) 0 0))), ((fa0 3), .inl (cI, 3002, .inl (upd (fun _ => 0) 0 0))), ((fa0 4), .inl (cI, 3002, .inl (upd (fun _ => 0) 0 0))), ((fa0 5), .inl (cJ, 3002, .inr (.inl (vp_updL (fun _ => 0) 0 0))))] (va_A [(h0, .inr (11, mo0 fa0)), ((fa0 2), .inl (cI, 3002, .inl (fun _ => 0))), ((fa0 3), .inl (cI, 3002, .inl (fun _ => 0))), ((fa0 4), .inl (cI, 3002, .inl (fun _ => 0))), ((fa0 5), .inl (cJ, 3002, .inr (.inl (fun _ => 0))))] sz)) (va_A [(h0, .inr (11, mo0 fa0)), ((fa0 2), .inl (cI, 3002, .inl (fun _ => 0))), ((fa0 3), .inl (cI, 3002, .inl (fun _ => 0))), ((fa0 4), .inl (cI, 3002, .inl (fun _ => 0))), ((fa0 5), .inl (cJ, 3002, .inr (.inl (fun _ => 0))))] sz)) 0 0 (va_A [(h0, .inr (11, mo0 fa0)), ((fa0 2), .inl (cI, 3002, .inl (fun _ => 0))), ((fa0 3), .inl (cI, 3002, .inl (fun _ => 0))), ((fa0 4), .inl (cI, 3002, .inl (fun _ => 0))), ((fa0 5), .inl (cJ, 3002, .inr (.inl (fun _ => 0))))] sz) := by
  refine Met.ofW (cc := cX11_cut) (maxL := 4) (ret := none) (by decide) rfl ?_
  intro p e s m args below meth c s₁ B hml hv
  obtain ⟨rfl, hsz, hP, hK, hD0⟩ := hv
  have hx := B.exec
  have hb := B.bytes
  have hr := B.returns
  have hts := atoms_spec (ws := wq_X11_cut_1) B.pre
  have hown : s.vm.findClass RX11 = some m.cls := findClass_of_methodNamed B.named
  have hlocks := B.notSynchronized
  subst hsz
  have hD := hD0.self (sz := s.heap.size)
  generalize hAe : va_A [(h0, .inr (11, mo0 fa0)), ((fa0 2), .inl (cI, 3002, .inl (fun _ => 0))), ((fa0 3), .inl (cI, 3002, .inl (fun _ => 0))), ((fa0 4), .inl (cI, 3002, .inl (fun _ => 0))), ((fa0 5), .inl (cJ, 3002, .inr (.inl (fun _ => 0))))] s.heap.size = A at hD ⊢
  have hA : ∀ q : Nat, s.heap.size ≤ q → A q := fun q h => by rw [← hAe]; exact Or.inr h
  have hS : va_S A s.heap s.heap [] := va_S.rf
  have hP : va_P (dC, dI) vwCl [(h0, .inr (11, mo0 fa0)), ((fa0 2), .inl (cI, 3002, .inl (fun _ => 0))), ((fa0 3), .inl (cI, 3002, .inl (fun _ => 0))), ((fa0 4), .inl (cI, 3002, .inl (fun _ => 0))), ((fa0 5), .inl (cJ, 3002, .inr (.inl (fun _ => 0))))] s.heap := hP
  obtain ⟨H, hH⟩ : ∃ H, H = s.heap := ⟨_, rfl⟩
  rw [← hH] at hP
  have hS : va_S A s.heap H [] := by rw [hH]; exact hS
  have hl := lv_entry ([.ref h0, .int 0]) (n := 4) (Nat.le_of_ble_eq_true rfl)
  rw [lg_entry_eq]
  generalize (lg_sl ([.ref h0, .int 0]) ++ List.replicate (4 - (lg_sl ([.ref h0, .int 0])).length) Slot.unset).toArray = ls at hl ⊢
  have hl : lv_has ls 4 [(0, .ref h0), (1, .int 0)] := hl
  refine pq_heap hH ?_
  refine lv_aload_n hx hb dX11_cut_0 rfl (lv_at hl 0 rfl) ?_
  refine lv_iload_n hx hb dX11_cut_1 rfl (lv_at hl 1 rfl) ?_
  refine va_put (D := (dC, dI)) (ci := 11) (v := .int 0) (ty := .int) (C := RX11) (T := TX11) (N := 122) hx hb hts iq_X11_cut_1_X11 tyX11 tyX11_ok nmX11 hown hK hP hD hS 0 rfl rfl 8 (by decide) (hts (Cond.fieldLink RX11 257 "CodePressModel" "bytes" "I") (List.mem_of_getElem? (i := 1) rfl)) (fun _ h9 => h9) rfl (by decide +kernel) rfl rfl (Nat.le_of_ble_eq_true rfl) dX11_cut_2 (fun H locs hP hD hS => ?_)
  have hR9 : pq_R (dC, dI) vwCl A [(h0, .inr (11, mo0 fa0)), ((fa0 2), .inl (cI, 3002, .inl (fun _ => 0))), ((fa0 3), .inl (cI, 3002, .inl (fun _ => 0))), ((fa0 4), .inl (cI, 3002, .inl (fun _ => 0))), ((fa0 5), .inl (cJ, 3002, .inr (.inl (fun _ => 0))))] H := ⟨hP, hD⟩
  have hP := hR9.1
  have hD := hR9.2
  refine lv_aload_n hx hb dX11_cut_5 rfl (lv_at hl 0 rfl) ?_
  refine lv_iconst (v := 0) hx hb dX11_cut_6 (by decide) ?_
  refine va_put (D := (dC, dI)) (ci := 11) (v := .int 0) (ty := .int) (C := RX11) (T := TX11) (N := 122) hx hb hts iq_X11_cut_1_X11 tyX11 tyX11_ok nmX11 hown hK hP hD hS 0 rfl rfl 7 (by decide) (hts (Cond.fieldLink RX11 260 "CodePressModel" "tokens" "I") (List.mem_of_getElem? (i := 2) rfl)) (fun _ h9 => h9) rfl (by decide +kernel) rfl rfl (Nat.le_of_ble_eq_true rfl) dX11_cut_7 (fun H locs hP hD hS => ?_)
  have hR9 : pq_R (dC, dI) vwCl A [(h0, .inr (11, mo0 fa0)), ((fa0 2), .inl (cI, 3002, .inl (fun _ => 0))), ((fa0 3), .inl (cI, 3002, .inl (fun _ => 0))), ((fa0 4), .inl (cI, 3002, .inl (fun _ => 0))), ((fa0 5), .inl (cJ, 3002, .inr (.inl (fun _ => 0))))] H := ⟨hP, hD⟩
  have hP := hR9.1
  have hD := hR9.2
  refine lv_iconst (v := 0) hx hb dX11_cut_10 (by decide) ?_
  refine lv_istore_n (lv' := [(2, .int 0), (0, .ref h0), (1, .int 0)]) hx hb dX11_cut_11 rfl hl (by decide) rfl (fun ls hl => ?_)
  refine lv_iload_n hx hb dX11_cut_12 rfl (lv_at hl 0 rfl) ?_
  refine lv_iload_n hx hb dX11_cut_13 rfl (lv_at hl 2 rfl) ?_
  refine lv_icmp_ge (tgt := 106) hx hb dX11_cut_14 (by decide) (fun _ => ?_) (fun c_ => absurd (by decide) c_)
  refine lv_aload_n hx hb dX11_cut_106 rfl (lv_at hl 1 rfl) ?_
  refine lv_iconst (v := 0) hx hb dX11_cut_107 (by decide) ?_
  refine lv_iload_n hx hb dX11_cut_108 rfl (lv_at hl 2 rfl) ?_
  refine lv_iconst (v := 0) hx hb dX11_cut_109 (by decide) ?_
  refine pq_cv (wr := []) (W1 := (fun u => [(h0, .inr (11, mo27 fa0)), ((fa0 2), .inl (cI, 3002, .inl (upd (fun _ => 0) 0 0))), ((fa0 3), .inl (cI, 3002, .inl (upd (fun _ => 0) 0 0))), ((fa0 4), .inl (cI, 3002, .inl (upd (fun _ => 0) 0 0))), ((fa0 5), .inl (cJ, 3002, .inr (.inl (vp_updL (fun _ => 0) 0 0))))])) (va_runV (As := [.int 0, .int 0, .int 0]) (rest := []) ⟨hx, hb, hml, hown, hts⟩ (cq_X11_token_1 l dC dI cB cI cJ cZ h0 fa0 H.size) (cwV 3 hts gq_X11_cut_1_X11_token_1_274 rfl rfl rfl (by decide +kernel) ⟨(by decide +kernel), (by decide +kernel)⟩) ⟨pq_blind, va_recv hK hP (ci := 11) (q0 := 0) rfl rfl, pq_pre hK hP hD [0, 1, 2, 3, 4] rfl rfl⟩ rfl rfl hl.1 rfl (lv_room (Nat.le_of_ble_eq_true rfl)) dX11_cut_110 ⟨(by decide +kernel), (by decide +kernel)⟩) hP hD hS hA [0, 1, 2, 3, 4] [] rfl rfl rfl (by decide) (fun u1 H locs hw hP hD hS => ?_)
  have hR9 : pq_R (dC, dI) vwCl A [(h0, .inr (11, mo27 fa0)), ((fa0 2), .inl (cI, 3002, .inl (upd (fun _ => 0) 0 0))), ((fa0 3), .inl (cI, 3002, .inl (upd (fun _ => 0) 0 0))), ((fa0 4), .inl (cI, 3002, .inl (upd (fun _ => 0) 0 0))), ((fa0 5), .inl (cJ, 3002, .inr (.inl (vp_updL (fun _ => 0) 0 0))))] H := ⟨hP, hD⟩
  have hP := hR9.1
  have hD := hR9.2
  refine W.widen (k := 0) (n := 0) (by decide +kernel) (by decide +kernel) ?_
  have hP9 := pq_P.pick (wc := [(h0, .inr (11, mo27 fa0)), ((fa0 2), .inl (cI, 3002, .inl (upd (fun _ => 0) 0 0))), ((fa0 3), .inl (cI, 3002, .inl (upd (fun _ => 0) 0 0))), ((fa0 4), .inl (cI, 3002, .inl (upd (fun _ => 0) 0 0))), ((fa0 5), .inl (cJ, 3002, .inr (.inl (vp_updL (fun _ => 0) 0 0))))]) hP [0, 1, 2, 3, 4] rfl
  have hD9 := hD.sub (ws' := [(h0, .inr (11, mo27 fa0)), ((fa0 2), .inl (cI, 3002, .inl (upd (fun _ => 0) 0 0))), ((fa0 3), .inl (cI, 3002, .inl (upd (fun _ => 0) 0 0))), ((fa0 4), .inl (cI, 3002, .inl (upd (fun _ => 0) 0 0))), ((fa0 5), .inl (cJ, 3002, .inr (.inl (vp_updL (fun _ => 0) 0 0))))]) [0, 1, 2, 3, 4] (by decide) rfl
  refine W.widen (k := 0) (n := 0) (by decide +kernel) (by decide +kernel) ?_
  exact W.vret hx hb hr (fun t ht hW => ⟨⟨sq_u [] [], rfl, trivial, pq_B.of ht hP9 hD9⟩, hS.F ht⟩) hS.2.2 dX11_cut_113
def wq_X11_opensText_1_r1 : List Cond := [Cond.code yX11_cut cX11_cut 4 none, Cond.fieldLink RX11 257 "CodePressModel" "bytes" "I", Cond.fieldLink RX11 260 "CodePressModel" "tokens" "I", Cond.code yX11_token cX11_token 4 none, Cond.fieldLink RX11 25 "CodePressModel" "sort" "[I", Cond.fieldLink RX11 28 "CodePressModel" "at" "[I", Cond.fieldLink RX11 31 "CodePressModel" "value" "[I", Cond.fieldLink RX11 34 "CodePressModel" "name" "[J", Cond.methodLink RX11 274 yX11_token, Cond.instanceMethod yX11_token, Cond.selects RX11 yX11_token yX11_token, Cond.initialized RX11, Cond.methodLink RX11 435 yX11_cut, Cond.instanceMethod yX11_cut, Cond.selects RX11 yX11_cut yX11_cut, Cond.fieldLink RX11 7 "CodePressModel" "taped" "I", Cond.fieldLink RX11 325 "CodePressModel" "t" "I", Cond.fieldLink RX11 342 "CodePressModel" "open" "I", Cond.fieldLink RX11 319 "CodePressModel" "fault" "I", Cond.fieldLink RX11 310 "CodePressModel" "nodes" "I", Cond.fieldLink RX11 293 "CodePressModel" "types" "I", Cond.fieldLink RX11 313 "CodePressModel" "items" "I"]
def wq_X11_opensText_1 : List Cond := Cond.code yX11_opensText cX11_opensText 5 none :: (wq_X11_opensText_1_r1 ++ wsX110)
theorem iq_X11_opensText_1_X11 : ∀ w ∈ wsX110, w ∈ wq_X11_opensText_1 := fun _ h => List.mem_cons_of_mem _ (List.mem_append_right _ h)
set_option maxRecDepth 20000 in
theorem gq_X11_opensText_1_X11_cut_1_435_0 : GoodIn wq_X11_opensText_1 (Cond.code yX11_cut cX11_cut 4 none :: wq_X11_cut_1_r1) := goodIn_r _ [1, 2, 3, 4, 5, 6, 7, 8, 9, 10, 11, 12] (by decide +kernel) (by decide +kernel)
set_option maxRecDepth 20000 in
theorem gq_X11_opensText_1_X11_cut_1_435 : GoodIn wq_X11_opensText_1 (wsV RX11 435 RX11 yX11_cut wq_X11_cut_1) := goodIn_app (goodIn_r _ [13, 14, 15, 12] (by decide +kernel) (by decide +kernel)) (goodIn_ca gq_X11_opensText_1_X11_cut_1_435_0 (goodIn_sub iq_X11_opensText_1_X11 guX11))
set_option maxHeartbeats 4000000 in
set_option maxRecDepth 100000 in
theorem cq_X11_opensText_1 (l : Launch) (dC : Nat → ClassId) (dI : Nat → Nat → Nat) (cB cI cJ cZ : ClassId) (h0 : Nat) (fa0 : Nat → Nat) (sz : Nat) : Met l yX11_opensText wq_X11_opensText_1 ({ frames := 2, cells := 0, slots := 0, locals := 46 }) (va_Pc [.ref h0, .int 0, .int 3400, .int 7200, .int 1200] (pq_W (dC, dI) vwCl (tyQ cB cI cJ cZ) [(h0, .inr (11, mo0 fa0)), ((fa0 2), .inl (cI, 3002, .inl (fun _ => 0))), ((fa0 3), .inl (cI, 3002, .inl (fun _ => 0))), ((fa0 4), .inl (cI, 3002, .inl (fun _ => 0))), ((fa0 5), .inl (cJ, 3002, .inr (.inl (fun _ => 0))))] sz)) (va_Qv (fun (_ : SQ) => True) (fun u => pq_B (dC, dI) vwCl [(h0, .inr (11, mo30 fa0)), ((fa0 2), .inl (cI, 3002, .inl (upd (fun _ => 0) 0 0))), ((fa0 3), .inl (cI, 3002, .inl (upd (fun _ => 0) 0 0))), ((fa0 4), .inl (cI, 3002, .inl (upd (fun _ => 0) 0 0))), ((fa0 5), .inl (cJ, 3002, .inr (.inl (vp_updL (fun _ => 0) 0 0))))] (va_A [(h0, .inr (11, mo0 fa0)), ((fa0 2), .inl (cI, 3002, .inl (fun _ => 0))), ((fa0 3), .inl (cI, 3002, .inl (fun _ => 0))), ((fa0 4), .inl (cI, 3002, .inl (fun _ => 0))), ((fa0 5), .inl (cJ, 3002, .inr (.inl (fun _ => 0))))] sz)) (va_A [(h0, .inr (11, mo0 fa0)), ((fa0 2), .inl (cI, 3002, .inl (fun _ => 0))), ((fa0 3), .inl (cI, 3002, .inl (fun _ => 0))), ((fa0 4), .inl (cI, 3002, .inl (fun _ => 0))), ((fa0 5), .inl (cJ, 3002, .inr (.inl (fun _ => 0))))] sz)) 0 0 (va_A [(h0, .inr (11, mo0 fa0)), ((fa0 2), .inl (cI, 3002, .inl (fun _ => 0))), ((fa0 3), .inl (cI, 3002, .inl (fun _ => 0))), ((fa0 4), .inl (cI, 3002, .inl (fun _ => 0))), ((fa0 5), .inl (cJ, 3002, .inr (.inl (fun _ => 0))))] sz) := by
  refine Met.ofW (cc := cX11_opensText) (maxL := 5) (ret := none) (by decide) rfl ?_
  intro p e s m args below meth c s₁ B hml hv
  obtain ⟨rfl, hsz, hP, hK, hD0⟩ := hv
  have hx := B.exec
  have hb := B.bytes
  have hr := B.returns
  have hts := atoms_spec (ws := wq_X11_opensText_1) B.pre
  have hown : s.vm.findClass RX11 = some m.cls := findClass_of_methodNamed B.named
  have hlocks := B.notSynchronized
  subst hsz
  have hD := hD0.self (sz := s.heap.size)
  generalize hAe : va_A [(h0, .inr (11, mo0 fa0)), ((fa0 2), .inl (cI, 3002, .inl (fun _ => 0))), ((fa0 3), .inl (cI, 3002, .inl (fun _ => 0))), ((fa0 4), .inl (cI, 3002, .inl (fun _ => 0))), ((fa0 5), .inl (cJ, 3002, .inr (.inl (fun _ => 0))))] s.heap.size = A at hD ⊢
  have hA : ∀ q : Nat, s.heap.size ≤ q → A q := fun q h => by rw [← hAe]; exact Or.inr h
  have hS : va_S A s.heap s.heap [] := va_S.rf
  have hP : va_P (dC, dI) vwCl [(h0, .inr (11, mo0 fa0)), ((fa0 2), .inl (cI, 3002, .inl (fun _ => 0))), ((fa0 3), .inl (cI, 3002, .inl (fun _ => 0))), ((fa0 4), .inl (cI, 3002, .inl (fun _ => 0))), ((fa0 5), .inl (cJ, 3002, .inr (.inl (fun _ => 0))))] s.heap := hP
  obtain ⟨H, hH⟩ : ∃ H, H = s.heap := ⟨_, rfl⟩
  rw [← hH] at hP
  have hS : va_S A s.heap H [] := by rw [hH]; exact hS
  have hl := lv_entry ([.ref h0, .int 0, .int 3400, .int 7200, .int 1200]) (n := 5) (Nat.le_of_ble_eq_true rfl)
  rw [lg_entry_eq]
  generalize (lg_sl ([.ref h0, .int 0, .int 3400, .int 7200, .int 1200]) ++ List.replicate (5 - (lg_sl ([.ref h0, .int 0, .int 3400, .int 7200, .int 1200])).length) Slot.unset).toArray = ls at hl ⊢
  have hl : lv_has ls 5 [(0, .ref h0), (1, .int 0), (2, .int 3400), (3, .int 7200), (4, .int 1200)] := hl
  refine pq_heap hH ?_
  refine lv_aload_n hx hb dX11_opensText_0 rfl (lv_at hl 0 rfl) ?_
  refine lv_iload_n hx hb dX11_opensText_1 rfl (lv_at hl 1 rfl) ?_
  refine pq_cv (wr := []) (W1 := (fun u => [(h0, .inr (11, mo27 fa0)), ((fa0 2), .inl (cI, 3002, .inl (upd (fun _ => 0) 0 0))), ((fa0 3), .inl (cI, 3002, .inl (upd (fun _ => 0) 0 0))), ((fa0 4), .inl (cI, 3002, .inl (upd (fun _ => 0) 0 0))), ((fa0 5), .inl (cJ, 3002, .inr (.inl (vp_updL (fun _ => 0) 0 0))))])) (va_runV (As := [.int 0]) (rest := []) ⟨hx, hb, hml, hown, hts⟩ (cq_X11_cut_1 l dC dI cB cI cJ cZ h0 fa0 H.size) (cwV 1 hts gq_X11_opensText_1_X11_cut_1_435 rfl rfl rfl (by decide +kernel) ⟨(by decide +kernel), (by decide +kernel)⟩) ⟨pq_blind, va_recv hK hP (ci := 11) (q0 := 0) rfl rfl, pq_pre hK hP hD [0, 1, 2, 3, 4] rfl rfl⟩ rfl rfl hl.1 rfl (lv_room (Nat.le_of_ble_eq_true rfl)) dX11_opensText_2 ⟨(by decide +kernel), (by decide +kernel)⟩) hP hD hS hA [0, 1, 2, 3, 4] [] rfl rfl rfl (by decide) (fun u1 H locs hw hP hD hS => ?_)
  have hR9 : pq_R (dC, dI) vwCl A [(h0, .inr (11, mo27 fa0)), ((fa0 2), .inl (cI, 3002, .inl (upd (fun _ => 0) 0 0))), ((fa0 3), .inl (cI, 3002, .inl (upd (fun _ => 0) 0 0))), ((fa0 4), .inl (cI, 3002, .inl (upd (fun _ => 0) 0 0))), ((fa0 5), .inl (cJ, 3002, .inr (.inl (vp_updL (fun _ => 0) 0 0))))] H := ⟨hP, hD⟩
  have hP := hR9.1
  have hD := hR9.2
  refine W.widen (k := 0) (n := 0) (by decide +kernel) (by decide +kernel) ?_
  refine lv_aload_n hx hb dX11_opensText_5 rfl (lv_at hl 0 rfl) ?_
  refine lv_iconst (v := 0) hx hb dX11_opensText_6 (by decide) ?_
  refine va_put (D := (dC, dI)) (ci := 11) (v := .int 0) (ty := .int) (C := RX11) (T := TX11) (N := 122) hx hb hts iq_X11_opensText_1_X11 tyX11 tyX11_ok nmX11 hown hK hP hD hS 0 rfl rfl 1 (by decide) (hts (Cond.fieldLink RX11 7 "CodePressModel" "taped" "I") (List.mem_of_getElem? (i := 16) rfl)) (fun _ h9 => h9) rfl (by decide +kernel) rfl rfl (Nat.le_of_ble_eq_true rfl) dX11_opensText_7 (fun H locs hP hD hS => ?_)
  have hR9 : pq_R (dC, dI) vwCl A [(h0, .inr (11, mo27 fa0)), ((fa0 2), .inl (cI, 3002, .inl (upd (fun _ => 0) 0 0))), ((fa0 3), .inl (cI, 3002, .inl (upd (fun _ => 0) 0 0))), ((fa0 4), .inl (cI, 3002, .inl (upd (fun _ => 0) 0 0))), ((fa0 5), .inl (cJ, 3002, .inr (.inl (vp_updL (fun _ => 0) 0 0))))] H := ⟨hP, hD⟩
  have hP := hR9.1
  have hD := hR9.2
  refine lv_aload_n hx hb dX11_opensText_10 rfl (lv_at hl 0 rfl) ?_
  refine lv_iconst (v := 0) hx hb dX11_opensText_11 (by decide) ?_
  refine va_put (D := (dC, dI)) (ci := 11) (v := .int 0) (ty := .int) (C := RX11) (T := TX11) (N := 122) hx hb hts iq_X11_opensText_1_X11 tyX11 tyX11_ok nmX11 hown hK hP hD hS 0 rfl rfl 38 (by decide) (hts (Cond.fieldLink RX11 325 "CodePressModel" "t" "I") (List.mem_of_getElem? (i := 17) rfl)) (fun _ h9 => h9) rfl (by decide +kernel) rfl rfl (Nat.le_of_ble_eq_true rfl) dX11_opensText_12 (fun H locs hP hD hS => ?_)
  have hR9 : pq_R (dC, dI) vwCl A [(h0, .inr (11, mo27 fa0)), ((fa0 2), .inl (cI, 3002, .inl (upd (fun _ => 0) 0 0))), ((fa0 3), .inl (cI, 3002, .inl (upd (fun _ => 0) 0 0))), ((fa0 4), .inl (cI, 3002, .inl (upd (fun _ => 0) 0 0))), ((fa0 5), .inl (cJ, 3002, .inr (.inl (vp_updL (fun _ => 0) 0 0))))] H := ⟨hP, hD⟩
  have hP := hR9.1
  have hD := hR9.2
  refine lv_aload_n hx hb dX11_opensText_15 rfl (lv_at hl 0 rfl) ?_
  refine lv_iconst (v := 0) hx hb dX11_opensText_16 (by decide) ?_
  refine va_put (D := (dC, dI)) (ci := 11) (v := .int 0) (ty := .int) (C := RX11) (T := TX11) (N := 122) hx hb hts iq_X11_opensText_1_X11 tyX11 tyX11_ok nmX11 hown hK hP hD hS 0 rfl rfl 39 (by decide) (hts (Cond.fieldLink RX11 342 "CodePressModel" "open" "I") (List.mem_of_getElem? (i := 18) rfl)) (fun _ h9 => h9) rfl (by decide +kernel) rfl rfl (Nat.le_of_ble_eq_true rfl) dX11_opensText_17 (fun H locs hP hD hS => ?_)
  have hR9 : pq_R (dC, dI) vwCl A [(h0, .inr (11, mo27 fa0)), ((fa0 2), .inl (cI, 3002, .inl (upd (fun _ => 0) 0 0))), ((fa0 3), .inl (cI, 3002, .inl (upd (fun _ => 0) 0 0))), ((fa0 4), .inl (cI, 3002, .inl (upd (fun _ => 0) 0 0))), ((fa0 5), .inl (cJ, 3002, .inr (.inl (vp_updL (fun _ => 0) 0 0))))] H := ⟨hP, hD⟩
  have hP := hR9.1
  have hD := hR9.2
  refine lv_aload_n hx hb dX11_opensText_20 rfl (lv_at hl 0 rfl) ?_
  refine lv_iconst (v := 0) hx hb dX11_opensText_21 (by decide) ?_
  refine va_put (D := (dC, dI)) (ci := 11) (v := .int 0) (ty := .int) (C := RX11) (T := TX11) (N := 122) hx hb hts iq_X11_opensText_1_X11 tyX11 tyX11_ok nmX11 hown hK hP hD hS 0 rfl rfl 40 (by decide) (hts (Cond.fieldLink RX11 319 "CodePressModel" "fault" "I") (List.mem_of_getElem? (i := 19) rfl)) (fun _ h9 => h9) rfl (by decide +kernel) rfl rfl (Nat.le_of_ble_eq_true rfl) dX11_opensText_22 (fun H locs hP hD hS => ?_)
  have hR9 : pq_R (dC, dI) vwCl A [(h0, .inr (11, mo27 fa0)), ((fa0 2), .inl (cI, 3002, .inl (upd (fun _ => 0) 0 0))), ((fa0 3), .inl (cI, 3002, .inl (upd (fun _ => 0) 0 0))), ((fa0 4), .inl (cI, 3002, .inl (upd (fun _ => 0) 0 0))), ((fa0 5), .inl (cJ, 3002, .inr (.inl (vp_updL (fun _ => 0) 0 0))))] H := ⟨hP, hD⟩
  have hP := hR9.1
  have hD := hR9.2
  refine lv_aload_n hx hb dX11_opensText_25 rfl (lv_at hl 0 rfl) ?_
  refine lv_iload_n hx hb dX11_opensText_26 rfl (lv_at hl 2 rfl) ?_
  refine va_put (D := (dC, dI)) (ci := 11) (v := .int 3400) (ty := .int) (C := RX11) (T := TX11) (N := 122) hx hb hts iq_X11_opensText_1_X11 tyX11 tyX11_ok nmX11 hown hK hP hD hS 0 rfl rfl 29 (by decide) (hts (Cond.fieldLink RX11 310 "CodePressModel" "nodes" "I") (List.mem_of_getElem? (i := 20) rfl)) (fun _ h9 => h9) rfl (by decide +kernel) rfl rfl (Nat.le_of_ble_eq_true rfl) dX11_opensText_27 (fun H locs hP hD hS => ?_)
  have hR9 : pq_R (dC, dI) vwCl A [(h0, .inr (11, mo28 fa0)), ((fa0 2), .inl (cI, 3002, .inl (upd (fun _ => 0) 0 0))), ((fa0 3), .inl (cI, 3002, .inl (upd (fun _ => 0) 0 0))), ((fa0 4), .inl (cI, 3002, .inl (upd (fun _ => 0) 0 0))), ((fa0 5), .inl (cJ, 3002, .inr (.inl (vp_updL (fun _ => 0) 0 0))))] H := ⟨hP, hD⟩
  have hP := hR9.1
  have hD := hR9.2
  refine lv_aload_n hx hb dX11_opensText_30 rfl (lv_at hl 0 rfl) ?_
  refine lv_iload_n hx hb dX11_opensText_31 rfl (lv_at hl 3 rfl) ?_
  refine va_put (D := (dC, dI)) (ci := 11) (v := .int 7200) (ty := .int) (C := RX11) (T := TX11) (N := 122) hx hb hts iq_X11_opensText_1_X11 tyX11 tyX11_ok nmX11 hown hK hP hD hS 0 rfl rfl 12 (by decide) (hts (Cond.fieldLink RX11 293 "CodePressModel" "types" "I") (List.mem_of_getElem? (i := 21) rfl)) (fun _ h9 => h9) rfl (by decide +kernel) rfl rfl (Nat.le_of_ble_eq_true rfl) dX11_opensText_32 (fun H locs hP hD hS => ?_)
  have hR9 : pq_R (dC, dI) vwCl A [(h0, .inr (11, mo29 fa0)), ((fa0 2), .inl (cI, 3002, .inl (upd (fun _ => 0) 0 0))), ((fa0 3), .inl (cI, 3002, .inl (upd (fun _ => 0) 0 0))), ((fa0 4), .inl (cI, 3002, .inl (upd (fun _ => 0) 0 0))), ((fa0 5), .inl (cJ, 3002, .inr (.inl (vp_updL (fun _ => 0) 0 0))))] H := ⟨hP, hD⟩
  have hP := hR9.1
  have hD := hR9.2
  refine lv_aload_n hx hb dX11_opensText_35 rfl (lv_at hl 0 rfl) ?_
  refine lv_iload hx hb dX11_opensText_36 (lv_at hl 4 rfl) ?_
  refine va_put (D := (dC, dI)) (ci := 11) (v := .int 1200) (ty := .int) (C := RX11) (T := TX11) (N := 122) hx hb hts iq_X11_opensText_1_X11 tyX11 tyX11_ok nmX11 hown hK hP hD hS 0 rfl rfl 36 (by decide) (hts (Cond.fieldLink RX11 313 "CodePressModel" "items" "I") (List.mem_of_getElem? (i := 22) rfl)) (fun _ h9 => h9) rfl (by decide +kernel) rfl rfl (Nat.le_of_ble_eq_true rfl) dX11_opensText_38 (fun H locs hP hD hS => ?_)
  have hR9 : pq_R (dC, dI) vwCl A [(h0, .inr (11, mo30 fa0)), ((fa0 2), .inl (cI, 3002, .inl (upd (fun _ => 0) 0 0))), ((fa0 3), .inl (cI, 3002, .inl (upd (fun _ => 0) 0 0))), ((fa0 4), .inl (cI, 3002, .inl (upd (fun _ => 0) 0 0))), ((fa0 5), .inl (cJ, 3002, .inr (.inl (vp_updL (fun _ => 0) 0 0))))] H := ⟨hP, hD⟩
  have hP := hR9.1
  have hD := hR9.2
  have hP9 := pq_P.pick (wc := [(h0, .inr (11, mo30 fa0)), ((fa0 2), .inl (cI, 3002, .inl (upd (fun _ => 0) 0 0))), ((fa0 3), .inl (cI, 3002, .inl (upd (fun _ => 0) 0 0))), ((fa0 4), .inl (cI, 3002, .inl (upd (fun _ => 0) 0 0))), ((fa0 5), .inl (cJ, 3002, .inr (.inl (vp_updL (fun _ => 0) 0 0))))]) hP [0, 1, 2, 3, 4] rfl
  have hD9 := hD.sub (ws' := [(h0, .inr (11, mo30 fa0)), ((fa0 2), .inl (cI, 3002, .inl (upd (fun _ => 0) 0 0))), ((fa0 3), .inl (cI, 3002, .inl (upd (fun _ => 0) 0 0))), ((fa0 4), .inl (cI, 3002, .inl (upd (fun _ => 0) 0 0))), ((fa0 5), .inl (cJ, 3002, .inr (.inl (vp_updL (fun _ => 0) 0 0))))]) [0, 1, 2, 3, 4] (by decide) rfl
  refine W.widen (k := 0) (n := 0) (by decide +kernel) (by decide +kernel) ?_
  exact W.vret hx hb hr (fun t ht hW => ⟨⟨sq_u [] [], rfl, trivial, pq_B.of ht hP9 hD9⟩, hS.F ht⟩) hS.2.2 dX11_opensText_41
def wq_X11_good_1_r1 : List Cond := [Cond.fieldLink RX11 319 "CodePressModel" "fault" "I"]
def wq_X11_good_1 : List Cond := Cond.code yX11_good cX11_good 1 (some .boolean) :: (wq_X11_good_1_r1 ++ wsX110)
theorem iq_X11_good_1_X11 : ∀ w ∈ wsX110, w ∈ wq_X11_good_1 := fun _ h => List.mem_cons_of_mem _ (List.mem_append_right _ h)
set_option maxHeartbeats 4000000 in
set_option maxRecDepth 100000 in
theorem cq_X11_good_1 (l : Launch) (dC : Nat → ClassId) (dI : Nat → Nat → Nat) (cB cI cJ cZ : ClassId) (h0 : Nat) (fa0 : Nat → Nat) (sz : Nat) : Met l yX11_good wq_X11_good_1 ({ frames := 0, cells := 0, slots := 0, locals := 0 }) (va_Pc [.ref h0] (pq_W (dC, dI) vwCl (tyQ cB cI cJ cZ) [(h0, .inr (11, mo30 fa0))] sz)) (va_Qi (fun (r : Int32) (_ : SQ) => r = 1) (fun u => pq_B (dC, dI) vwCl [(h0, .inr (11, mo30 fa0))] (va_A [(h0, .inr (11, mo30 fa0))] sz)) (va_A [(h0, .inr (11, mo30 fa0))] sz)) 0 0 (va_A [(h0, .inr (11, mo30 fa0))] sz) := by
  refine Met.ofW (cc := cX11_good) (maxL := 1) (ret := (some .boolean)) (by decide) rfl ?_
  intro p e s m args below meth c s₁ B hml hv
  obtain ⟨rfl, hsz, hP, hK, hD0⟩ := hv
  have hx := B.exec
  have hb := B.bytes
  have hr := B.returns
  have hts := atoms_spec (ws := wq_X11_good_1) B.pre
  have hown : s.vm.findClass RX11 = some m.cls := findClass_of_methodNamed B.named
  have hlocks := B.notSynchronized
  subst hsz
  have hD := hD0.self (sz := s.heap.size)
  generalize hAe : va_A [(h0, .inr (11, mo30 fa0))] s.heap.size = A at hD ⊢
  have hA : ∀ q : Nat, s.heap.size ≤ q → A q := fun q h => by rw [← hAe]; exact Or.inr h
  have hS : va_S A s.heap s.heap [] := va_S.rf
  have hP : va_P (dC, dI) vwCl [(h0, .inr (11, mo30 fa0))] s.heap := hP
  obtain ⟨H, hH⟩ : ∃ H, H = s.heap := ⟨_, rfl⟩
  rw [← hH] at hP
  have hS : va_S A s.heap H [] := by rw [hH]; exact hS
  have hl := lv_entry ([.ref h0]) (n := 1) (Nat.le_of_ble_eq_true rfl)
  rw [lg_entry_eq]
  generalize (lg_sl ([.ref h0]) ++ List.replicate (1 - (lg_sl ([.ref h0])).length) Slot.unset).toArray = ls at hl ⊢
  have hl : lv_has ls 1 [(0, .ref h0)] := hl
  refine pq_heap hH ?_
  refine lv_aload_n hx hb dX11_good_0 rfl (lv_at hl 0 rfl) ?_
  refine va_get (D := (dC, dI)) (ci := 11) (v := .int 0) (C := RX11) (T := TX11) (N := 122) hx hb hts iq_X11_good_1_X11 hown hK hP 0 rfl rfl 40 (by decide) (hts (Cond.fieldLink RX11 319 "CodePressModel" "fault" "I") (List.mem_of_getElem? (i := 1) rfl)) (fun _ h9 => h9) rfl dX11_good_1 ?_
  refine lv_if_ne (tgt := 11) hx hb dX11_good_4 (by decide) (fun c_ => absurd (by decide) c_) (fun _ => ?_)
  refine lv_iconst (v := 1) hx hb dX11_good_7 (by decide) ?_
  refine lv_goto (tgt := 12) hx hb dX11_good_8 (by decide) ?_
  have hP9 := pq_P.pick (wc := [(h0, .inr (11, mo30 fa0))]) hP [0] rfl
  have hD9 := hD.sub (ws' := [(h0, .inr (11, mo30 fa0))]) [0] (by decide) rfl
  refine W.widen (k := 0) (n := 0) (by decide +kernel) (by decide +kernel) ?_
  exact W.zret (v := 1) hx hb hr rfl (fun t ht hW => ⟨⟨1, sq_u [] [], rfl, rfl, pq_B.of ht hP9 hD9⟩, hS.F ht⟩) hS.2.2 dX11_good_12
def wq_X11_isWord_r1 : List Cond := [Cond.code yX11_good cX11_good 1 (some .boolean), Cond.fieldLink RX11 319 "CodePressModel" "fault" "I", Cond.methodLink RX11 332 yX11_good, Cond.instanceMethod yX11_good, Cond.selects RX11 yX11_good yX11_good, Cond.initialized RX11, Cond.fieldLink RX11 25 "CodePressModel" "sort" "[I", Cond.fieldLink RX11 325 "CodePressModel" "t" "I"]
def wq_X11_isWord : List Cond := Cond.code yX11_isWord cX11_isWord 2 (some .boolean) :: (wq_X11_isWord_r1 ++ wsX110)
theorem iq_X11_isWord_X11 : ∀ w ∈ wsX110, w ∈ wq_X11_isWord := fun _ h => List.mem_cons_of_mem _ (List.mem_append_right _ h)
set_option maxRecDepth 20000 in
theorem gq_X11_isWord_X11_good_1_332_0 : GoodIn wq_X11_isWord (Cond.code yX11_good cX11_good 1 (some .boolean) :: wq_X11_good_1_r1) := goodIn_r _ [1, 2] (by decide +kernel) (by decide +kernel)
set_option maxRecDepth 20000 in
theorem gq_X11_isWord_X11_good_1_332 : GoodIn wq_X11_isWord (wsV RX11 332 RX11 yX11_good wq_X11_good_1) := goodIn_app (goodIn_r _ [3, 4, 5, 6] (by decide +kernel) (by decide +kernel)) (goodIn_ca gq_X11_isWord_X11_good_1_332_0 (goodIn_sub iq_X11_isWord_X11 guX11))
set_option maxHeartbeats 4000000 in
set_option maxRecDepth 100000 in
theorem cq_X11_isWord (l : Launch) (dC : Nat → ClassId) (dI : Nat → Nat → Nat) (cB cI cJ cZ : ClassId) (h0 : Nat) (fa0 : Nat → Nat) (sz : Nat) : Met l yX11_isWord wq_X11_isWord ({ frames := 1, cells := 0, slots := 0, locals := 20 }) (va_Pc [.ref h0, .int 1] (pq_W (dC, dI) vwCl (tyQ cB cI cJ cZ) [(h0, .inr (11, mo30 fa0)), ((fa0 2), .inl (cI, 3002, .inl (upd (fun _ => 0) 0 0)))] sz)) (va_Qi (fun (r : Int32) (_ : SQ) => r = 0) (fun u => pq_B (dC, dI) vwCl [((fa0 2), .inl (cI, 3002, .inl (upd (fun _ => 0) 0 0))), (h0, .inr (11, mo30 fa0))] (va_A [(h0, .inr (11, mo30 fa0)), ((fa0 2), .inl (cI, 3002, .inl (upd (fun _ => 0) 0 0)))] sz)) (va_A [(h0, .inr (11, mo30 fa0)), ((fa0 2), .inl (cI, 3002, .inl (upd (fun _ => 0) 0 0)))] sz)) 0 0 (va_A [(h0, .inr (11, mo30 fa0)), ((fa0 2), .inl (cI, 3002, .inl (upd (fun _ => 0) 0 0)))] sz) := by
  refine Met.ofW (cc := cX11_isWord) (maxL := 2) (ret := (some .boolean)) (by decide) rfl ?_
  intro p e s m args below meth c s₁ B hml hv
  obtain ⟨rfl, hsz, hP, hK, hD0⟩ := hv
  have hx := B.exec
  have hb := B.bytes
  have hr := B.returns
  have hts := atoms_spec (ws := wq_X11_isWord) B.pre
  have hown : s.vm.findClass RX11 = some m.cls := findClass_of_methodNamed B.named
  have hlocks := B.notSynchronized
  subst hsz
  have hD := hD0.self (sz := s.heap.size)
  generalize hAe : va_A [(h0, .inr (11, mo30 fa0)), ((fa0 2), .inl (cI, 3002, .inl (upd (fun _ => 0) 0 0)))] s.heap.size = A at hD ⊢
  have hA : ∀ q : Nat, s.heap.size ≤ q → A q := fun q h => by rw [← hAe]; exact Or.inr h
  have hS : va_S A s.heap s.heap [] := va_S.rf
  have hP : va_P (dC, dI) vwCl [(h0, .inr (11, mo30 fa0)), ((fa0 2), .inl (cI, 3002, .inl (upd (fun _ => 0) 0 0)))] s.heap := hP
  obtain ⟨H, hH⟩ : ∃ H, H = s.heap := ⟨_, rfl⟩
  rw [← hH] at hP
  have hS : va_S A s.heap H [] := by rw [hH]; exact hS
  have hl := lv_entry ([.ref h0, .int 1]) (n := 2) (Nat.le_of_ble_eq_true rfl)
  rw [lg_entry_eq]
  generalize (lg_sl ([.ref h0, .int 1]) ++ List.replicate (2 - (lg_sl ([.ref h0, .int 1])).length) Slot.unset).toArray = ls at hl ⊢
  have hl : lv_has ls 2 [(0, .ref h0), (1, .int 1)] := hl
  refine pq_heap hH ?_
  refine lv_aload_n hx hb dX11_isWord_0 rfl (lv_at hl 0 rfl) ?_
  refine pq_ci (wr := [((fa0 2), .inl (cI, 3002, .inl (upd (fun _ => 0) 0 0)))]) (W1 := (fun u => [(h0, .inr (11, mo30 fa0))])) (va_runV (As := []) (rest := []) ⟨hx, hb, hml, hown, hts⟩ (cq_X11_good_1 l dC dI cB cI cJ cZ h0 fa0 H.size) (cwV 0 hts gq_X11_isWord_X11_good_1_332 rfl rfl rfl (by decide +kernel) ⟨(by decide +kernel), (by decide +kernel)⟩) ⟨pq_blind, va_recv hK hP (ci := 11) (q0 := 0) rfl rfl, pq_pre hK hP hD [0] rfl rfl⟩ rfl rfl hl.1 rfl (lv_room (Nat.le_of_ble_eq_true rfl)) dX11_isWord_1 ⟨(by decide +kernel), (by decide +kernel)⟩) hP hD hS hA [0] [1] rfl rfl rfl (by decide) (fun r2 u1 H locs hw hP hD hS => ?_)
  subst hw
  have hR9 : pq_R (dC, dI) vwCl A [((fa0 2), .inl (cI, 3002, .inl (upd (fun _ => 0) 0 0))), (h0, .inr (11, mo30 fa0))] H := ⟨hP, hD⟩
  have hP := hR9.1
  have hD := hR9.2
  refine W.widen (k := 0) (n := 0) (by decide +kernel) (by decide +kernel) ?_
  refine lv_if_eq (tgt := 37) hx hb dX11_isWord_4 (by decide) (fun c_ => absurd c_ (by decide)) (fun _ => ?_)
  refine lv_aload_n hx hb dX11_isWord_7 rfl (lv_at hl 0 rfl) ?_
  refine va_get (D := (dC, dI)) (ci := 11) (v := .ref (fa0 2)) (C := RX11) (T := TX11) (N := 122) hx hb hts iq_X11_isWord_X11 hown hK hP 1 rfl rfl 3 (by decide) (hts (Cond.fieldLink RX11 25 "CodePressModel" "sort" "[I") (List.mem_of_getElem? (i := 7) rfl)) (fun _ h9 => h9) rfl dX11_isWord_8 ?_
  refine lv_aload_n hx hb dX11_isWord_11 rfl (lv_at hl 0 rfl) ?_
  refine va_get (D := (dC, dI)) (ci := 11) (v := .int 0) (C := RX11) (T := TX11) (N := 122) hx hb hts iq_X11_isWord_X11 hown hK hP 1 rfl rfl 38 (by decide) (hts (Cond.fieldLink RX11 325 "CodePressModel" "t" "I") (List.mem_of_getElem? (i := 8) rfl)) (fun _ h9 => h9) rfl dX11_isWord_12 ?_
  refine va_iald hx hb hK hP 0 1 rfl rfl (pq_in (by decide)) dX11_isWord_15 ?_
  refine lv_topi (fun x3 ex3 => ?_)
  obtain rfl : x3 = 0 := ex3.trans (by decide)
  refine lv_iconst (v := 4) hx hb dX11_isWord_16 (by decide) ?_
  refine lv_icmp_ne (tgt := 37) hx hb dX11_isWord_17 (by decide) (fun _ => ?_) (fun c_ => absurd c_ (by decide))
  refine lv_iconst (v := 0) hx hb dX11_isWord_37 (by decide) ?_
  have hP9 := pq_P.pick (wc := [((fa0 2), .inl (cI, 3002, .inl (upd (fun _ => 0) 0 0))), (h0, .inr (11, mo30 fa0))]) hP [0, 1] rfl
  have hD9 := hD.sub (ws' := [((fa0 2), .inl (cI, 3002, .inl (upd (fun _ => 0) 0 0))), (h0, .inr (11, mo30 fa0))]) [0, 1] (by decide) rfl
  refine W.widen (k := 0) (n := 0) (by decide +kernel) (by decide +kernel) ?_
  exact W.zret (v := 0) hx hb hr rfl (fun t ht hW => ⟨⟨0, sq_u [] [], rfl, rfl, pq_B.of ht hP9 hD9⟩, hS.F ht⟩) hS.2.2 dX11_isWord_38
def wq_X11_isWord_1_r1 : List Cond := [Cond.code yX11_good cX11_good 1 (some .boolean), Cond.fieldLink RX11 319 "CodePressModel" "fault" "I", Cond.methodLink RX11 332 yX11_good, Cond.instanceMethod yX11_good, Cond.selects RX11 yX11_good yX11_good, Cond.initialized RX11, Cond.fieldLink RX11 25 "CodePressModel" "sort" "[I", Cond.fieldLink RX11 325 "CodePressModel" "t" "I"]
def wq_X11_isWord_1 : List Cond := Cond.code yX11_isWord cX11_isWord 2 (some .boolean) :: (wq_X11_isWord_1_r1 ++ wsX110)
theorem iq_X11_isWord_1_X11 : ∀ w ∈ wsX110, w ∈ wq_X11_isWord_1 := fun _ h => List.mem_cons_of_mem _ (List.mem_append_right _ h)
set_option maxRecDepth 20000 in
theorem gq_X11_isWord_1_X11_good_1_332_0 : GoodIn wq_X11_isWord_1 (Cond.code yX11_good cX11_good 1 (some .boolean) :: wq_X11_good_1_r1) := goodIn_r _ [1, 2] (by decide +kernel) (by decide +kernel)
set_option maxRecDepth 20000 in
theorem gq_X11_isWord_1_X11_good_1_332 : GoodIn wq_X11_isWord_1 (wsV RX11 332 RX11 yX11_good wq_X11_good_1) := goodIn_app (goodIn_r _ [3, 4, 5, 6] (by decide +kernel) (by decide +kernel)) (goodIn_ca gq_X11_isWord_1_X11_good_1_332_0 (goodIn_sub iq_X11_isWord_1_X11 guX11))
set_option maxHeartbeats 4000000 in
set_option maxRecDepth 100000 in
theorem cq_X11_isWord_1 (l : Launch) (dC : Nat → ClassId) (dI : Nat → Nat → Nat) (cB cI cJ cZ : ClassId) (h0 : Nat) (fa0 : Nat → Nat) (sz : Nat) : Met l yX11_isWord wq_X11_isWord_1 ({ frames := 1, cells := 0, slots := 0, locals := 20 }) (va_Pc [.ref h0, .int 2] (pq_W (dC, dI) vwCl (tyQ cB cI cJ cZ) [(h0, .inr (11, mo30 fa0)), ((fa0 2), .inl (cI, 3002, .inl (upd (fun _ => 0) 0 0)))] sz)) (va_Qi (fun (r : Int32) (_ : SQ) => r = 0) (fun u => pq_B (dC, dI) vwCl [((fa0 2), .inl (cI, 3002, .inl (upd (fun _ => 0) 0 0))), (h0, .inr (11, mo30 fa0))] (va_A [(h0, .inr (11, mo30 fa0)), ((fa0 2), .inl (cI, 3002, .inl (upd (fun _ => 0) 0 0)))] sz)) (va_A [(h0, .inr (11, mo30 fa0)), ((fa0 2), .inl (cI, 3002, .inl (upd (fun _ => 0) 0 0)))] sz)) 0 0 (va_A [(h0, .inr (11, mo30 fa0)), ((fa0 2), .inl (cI, 3002, .inl (upd (fun _ => 0) 0 0)))] sz) := by
  refine Met.ofW (cc := cX11_isWord) (maxL := 2) (ret := (some .boolean)) (by decide) rfl ?_
  intro p e s m args below meth c s₁ B hml hv
  obtain ⟨rfl, hsz, hP, hK, hD0⟩ := hv
  have hx := B.exec
  have hb := B.bytes
  have hr := B.returns
  have hts := atoms_spec (ws := wq_X11_isWord_1) B.pre
  have hown : s.vm.findClass RX11 = some m.cls := findClass_of_methodNamed B.named
  have hlocks := B.notSynchronized
  subst hsz
  have hD := hD0.self (sz := s.heap.size)
  generalize hAe : va_A [(h0, .inr (11, mo30 fa0)), ((fa0 2), .inl (cI, 3002, .inl (upd (fun _ => 0) 0 0)))] s.heap.size = A at hD ⊢
  have hA : ∀ q : Nat, s.heap.size ≤ q → A q := fun q h => by rw [← hAe]; exact Or.inr h
  have hS : va_S A s.heap s.heap [] := va_S.rf
  have hP : va_P (dC, dI) vwCl [(h0, .inr (11, mo30 fa0)), ((fa0 2), .inl (cI, 3002, .inl (upd (fun _ => 0) 0 0)))] s.heap := hP
  obtain ⟨H, hH⟩ : ∃ H, H = s.heap := ⟨_, rfl⟩
  rw [← hH] at hP
  have hS : va_S A s.heap H [] := by rw [hH]; exact hS
  have hl := lv_entry ([.ref h0, .int 2]) (n := 2) (Nat.le_of_ble_eq_true rfl)
  rw [lg_entry_eq]
  generalize (lg_sl ([.ref h0, .int 2]) ++ List.replicate (2 - (lg_sl ([.ref h0, .int 2])).length) Slot.unset).toArray = ls at hl ⊢
  have hl : lv_has ls 2 [(0, .ref h0), (1, .int 2)] := hl
  refine pq_heap hH ?_
  refine lv_aload_n hx hb dX11_isWord_0 rfl (lv_at hl 0 rfl) ?_
  refine pq_ci (wr := [((fa0 2), .inl (cI, 3002, .inl (upd (fun _ => 0) 0 0)))]) (W1 := (fun u => [(h0, .inr (11, mo30 fa0))])) (va_runV (As := []) (rest := []) ⟨hx, hb, hml, hown, hts⟩ (cq_X11_good_1 l dC dI cB cI cJ cZ h0 fa0 H.size) (cwV 0 hts gq_X11_isWord_1_X11_good_1_332 rfl rfl rfl (by decide +kernel) ⟨(by decide +kernel), (by decide +kernel)⟩) ⟨pq_blind, va_recv hK hP (ci := 11) (q0 := 0) rfl rfl, pq_pre hK hP hD [0] rfl rfl⟩ rfl rfl hl.1 rfl (lv_room (Nat.le_of_ble_eq_true rfl)) dX11_isWord_1 ⟨(by decide +kernel), (by decide +kernel)⟩) hP hD hS hA [0] [1] rfl rfl rfl (by decide) (fun r2 u1 H locs hw hP hD hS => ?_)
  subst hw
  have hR9 : pq_R (dC, dI) vwCl A [((fa0 2), .inl (cI, 3002, .inl (upd (fun _ => 0) 0 0))), (h0, .inr (11, mo30 fa0))] H := ⟨hP, hD⟩
  have hP := hR9.1
  have hD := hR9.2
  refine W.widen (k := 0) (n := 0) (by decide +kernel) (by decide +kernel) ?_
  refine lv_if_eq (tgt := 37) hx hb dX11_isWord_4 (by decide) (fun c_ => absurd c_ (by decide)) (fun _ => ?_)
  refine lv_aload_n hx hb dX11_isWord_7 rfl (lv_at hl 0 rfl) ?_
  refine va_get (D := (dC, dI)) (ci := 11) (v := .ref (fa0 2)) (C := RX11) (T := TX11) (N := 122) hx hb hts iq_X11_isWord_1_X11 hown hK hP 1 rfl rfl 3 (by decide) (hts (Cond.fieldLink RX11 25 "CodePressModel" "sort" "[I") (List.mem_of_getElem? (i := 7) rfl)) (fun _ h9 => h9) rfl dX11_isWord_8 ?_
  refine lv_aload_n hx hb dX11_isWord_11 rfl (lv_at hl 0 rfl) ?_
  refine va_get (D := (dC, dI)) (ci := 11) (v := .int 0) (C := RX11) (T := TX11) (N := 122) hx hb hts iq_X11_isWord_1_X11 hown hK hP 1 rfl rfl 38 (by decide) (hts (Cond.fieldLink RX11 325 "CodePressModel" "t" "I") (List.mem_of_getElem? (i := 8) rfl)) (fun _ h9 => h9) rfl dX11_isWord_12 ?_
  refine va_iald hx hb hK hP 0 1 rfl rfl (pq_in (by decide)) dX11_isWord_15 ?_
  refine lv_topi (fun x3 ex3 => ?_)
  obtain rfl : x3 = 0 := ex3.trans (by decide)
  refine lv_iconst (v := 4) hx hb dX11_isWord_16 (by decide) ?_
  refine lv_icmp_ne (tgt := 37) hx hb dX11_isWord_17 (by decide) (fun _ => ?_) (fun c_ => absurd c_ (by decide))
  refine lv_iconst (v := 0) hx hb dX11_isWord_37 (by decide) ?_
  have hP9 := pq_P.pick (wc := [((fa0 2), .inl (cI, 3002, .inl (upd (fun _ => 0) 0 0))), (h0, .inr (11, mo30 fa0))]) hP [0, 1] rfl
  have hD9 := hD.sub (ws' := [((fa0 2), .inl (cI, 3002, .inl (upd (fun _ => 0) 0 0))), (h0, .inr (11, mo30 fa0))]) [0, 1] (by decide) rfl
  refine W.widen (k := 0) (n := 0) (by decide +kernel) (by decide +kernel) ?_
  exact W.zret (v := 0) hx hb hr rfl (fun t ht hW => ⟨⟨0, sq_u [] [], rfl, rfl, pq_B.of ht hP9 hD9⟩, hS.F ht⟩) hS.2.2 dX11_isWord_38
def wq_X11_isWord_2_r1 : List Cond := [Cond.code yX11_good cX11_good 1 (some .boolean), Cond.fieldLink RX11 319 "CodePressModel" "fault" "I", Cond.methodLink RX11 332 yX11_good, Cond.instanceMethod yX11_good, Cond.selects RX11 yX11_good yX11_good, Cond.initialized RX11, Cond.fieldLink RX11 25 "CodePressModel" "sort" "[I", Cond.fieldLink RX11 325 "CodePressModel" "t" "I"]
def wq_X11_isWord_2 : List Cond := Cond.code yX11_isWord cX11_isWord 2 (some .boolean) :: (wq_X11_isWord_2_r1 ++ wsX110)
theorem iq_X11_isWord_2_X11 : ∀ w ∈ wsX110, w ∈ wq_X11_isWord_2 := fun _ h => List.mem_cons_of_mem _ (List.mem_append_right _ h)
set_option maxRecDepth 20000 in
theorem gq_X11_isWord_2_X11_good_1_332_0 : GoodIn wq_X11_isWord_2 (Cond.code yX11_good cX11_good 1 (some .boolean) :: wq_X11_good_1_r1) := goodIn_r _ [1, 2] (by decide +kernel) (by decide +kernel)
set_option maxRecDepth 20000 in
theorem gq_X11_isWord_2_X11_good_1_332 : GoodIn wq_X11_isWord_2 (wsV RX11 332 RX11 yX11_good wq_X11_good_1) := goodIn_app (goodIn_r _ [3, 4, 5, 6] (by decide +kernel) (by decide +kernel)) (goodIn_ca gq_X11_isWord_2_X11_good_1_332_0 (goodIn_sub iq_X11_isWord_2_X11 guX11))
set_option maxHeartbeats 4000000 in
set_option maxRecDepth 100000 in
theorem cq_X11_isWord_2 (l : Launch) (dC : Nat → ClassId) (dI : Nat → Nat → Nat) (cB cI cJ cZ : ClassId) (h0 : Nat) (fa0 : Nat → Nat) (sz : Nat) : Met l yX11_isWord wq_X11_isWord_2 ({ frames := 1, cells := 0, slots := 0, locals := 20 }) (va_Pc [.ref h0, .int 3] (pq_W (dC, dI) vwCl (tyQ cB cI cJ cZ) [(h0, .inr (11, mo30 fa0)), ((fa0 2), .inl (cI, 3002, .inl (upd (fun _ => 0) 0 0)))] sz)) (va_Qi (fun (r : Int32) (_ : SQ) => r = 0) (fun u => pq_B (dC, dI) vwCl [((fa0 2), .inl (cI, 3002, .inl (upd (fun _ => 0) 0 0))), (h0, .inr (11, mo30 fa0))] (va_A [(h0, .inr (11, mo30 fa0)), ((fa0 2), .inl (cI, 3002, .inl (upd (fun _ => 0) 0 0)))] sz)) (va_A [(h0, .inr (11, mo30 fa0)), ((fa0 2), .inl (cI, 3002, .inl (upd (fun _ => 0) 0 0)))] sz)) 0 0 (va_A [(h0, .inr (11, mo30 fa0)), ((fa0 2), .inl (cI, 3002, .inl (upd (fun _ => 0) 0 0)))] sz) := by
  refine Met.ofW (cc := cX11_isWord) (maxL := 2) (ret := (some .boolean)) (by decide) rfl ?_
  intro p e s m args below meth c s₁ B hml hv
  obtain ⟨rfl, hsz, hP, hK, hD0⟩ := hv
  have hx := B.exec
  have hb := B.bytes
  have hr := B.returns
  have hts := atoms_spec (ws := wq_X11_isWord_2) B.pre
  have hown : s.vm.findClass RX11 = some m.cls := findClass_of_methodNamed B.named
  have hlocks := B.notSynchronized
  subst hsz
  have hD := hD0.self (sz := s.heap.size)
  generalize hAe : va_A [(h0, .inr (11, mo30 fa0)), ((fa0 2), .inl (cI, 3002, .inl (upd (fun _ => 0) 0 0)))] s.heap.size = A at hD ⊢
  have hA : ∀ q : Nat, s.heap.size ≤ q → A q := fun q h => by rw [← hAe]; exact Or.inr h
  have hS : va_S A s.heap s.heap [] := va_S.rf
  have hP : va_P (dC, dI) vwCl [(h0, .inr (11, mo30 fa0)), ((fa0 2), .inl (cI, 3002, .inl (upd (fun _ => 0) 0 0)))] s.heap := hP
  obtain ⟨H, hH⟩ : ∃ H, H = s.heap := ⟨_, rfl⟩
  rw [← hH] at hP
  have hS : va_S A s.heap H [] := by rw [hH]; exact hS
  have hl := lv_entry ([.ref h0, .int 3]) (n := 2) (Nat.le_of_ble_eq_true rfl)
  rw [lg_entry_eq]
  generalize (lg_sl ([.ref h0, .int 3]) ++ List.replicate (2 - (lg_sl ([.ref h0, .int 3])).length) Slot.unset).toArray = ls at hl ⊢
  have hl : lv_has ls 2 [(0, .ref h0), (1, .int 3)] := hl
  refine pq_heap hH ?_
  refine lv_aload_n hx hb dX11_isWord_0 rfl (lv_at hl 0 rfl) ?_
  refine pq_ci (wr := [((fa0 2), .inl (cI, 3002, .inl (upd (fun _ => 0) 0 0)))]) (W1 := (fun u => [(h0, .inr (11, mo30 fa0))])) (va_runV (As := []) (rest := []) ⟨hx, hb, hml, hown, hts⟩ (cq_X11_good_1 l dC dI cB cI cJ cZ h0 fa0 H.size) (cwV 0 hts gq_X11_isWord_2_X11_good_1_332 rfl rfl rfl (by decide +kernel) ⟨(by decide +kernel), (by decide +kernel)⟩) ⟨pq_blind, va_recv hK hP (ci := 11) (q0 := 0) rfl rfl, pq_pre hK hP hD [0] rfl rfl⟩ rfl rfl hl.1 rfl (lv_room (Nat.le_of_ble_eq_true rfl)) dX11_isWord_1 ⟨(by decide +kernel), (by decide +kernel)⟩) hP hD hS hA [0] [1] rfl rfl rfl (by decide) (fun r2 u1 H locs hw hP hD hS => ?_)
  subst hw
  have hR9 : pq_R (dC, dI) vwCl A [((fa0 2), .inl (cI, 3002, .inl (upd (fun _ => 0) 0 0))), (h0, .inr (11, mo30 fa0))] H := ⟨hP, hD⟩
  have hP := hR9.1
  have hD := hR9.2
  refine W.widen (k := 0) (n := 0) (by decide +kernel) (by decide +kernel) ?_
  refine lv_if_eq (tgt := 37) hx hb dX11_isWord_4 (by decide) (fun c_ => absurd c_ (by decide)) (fun _ => ?_)
  refine lv_aload_n hx hb dX11_isWord_7 rfl (lv_at hl 0 rfl) ?_
  refine va_get (D := (dC, dI)) (ci := 11) (v := .ref (fa0 2)) (C := RX11) (T := TX11) (N := 122) hx hb hts iq_X11_isWord_2_X11 hown hK hP 1 rfl rfl 3 (by decide) (hts (Cond.fieldLink RX11 25 "CodePressModel" "sort" "[I") (List.mem_of_getElem? (i := 7) rfl)) (fun _ h9 => h9) rfl dX11_isWord_8 ?_
  refine lv_aload_n hx hb dX11_isWord_11 rfl (lv_at hl 0 rfl) ?_
  refine va_get (D := (dC, dI)) (ci := 11) (v := .int 0) (C := RX11) (T := TX11) (N := 122) hx hb hts iq_X11_isWord_2_X11 hown hK hP 1 rfl rfl 38 (by decide) (hts (Cond.fieldLink RX11 325 "CodePressModel" "t" "I") (List.mem_of_getElem? (i := 8) rfl)) (fun _ h9 => h9) rfl dX11_isWord_12 ?_
  refine va_iald hx hb hK hP 0 1 rfl rfl (pq_in (by decide)) dX11_isWord_15 ?_
  refine lv_topi (fun x3 ex3 => ?_)
  obtain rfl : x3 = 0 := ex3.trans (by decide)
  refine lv_iconst (v := 4) hx hb dX11_isWord_16 (by decide) ?_
  refine lv_icmp_ne (tgt := 37) hx hb dX11_isWord_17 (by decide) (fun _ => ?_) (fun c_ => absurd c_ (by decide))
  refine lv_iconst (v := 0) hx hb dX11_isWord_37 (by decide) ?_
  have hP9 := pq_P.pick (wc := [((fa0 2), .inl (cI, 3002, .inl (upd (fun _ => 0) 0 0))), (h0, .inr (11, mo30 fa0))]) hP [0, 1] rfl
  have hD9 := hD.sub (ws' := [((fa0 2), .inl (cI, 3002, .inl (upd (fun _ => 0) 0 0))), (h0, .inr (11, mo30 fa0))]) [0, 1] (by decide) rfl
  refine W.widen (k := 0) (n := 0) (by decide +kernel) (by decide +kernel) ?_
  exact W.zret (v := 0) hx hb hr rfl (fun t ht hW => ⟨⟨0, sq_u [] [], rfl, rfl, pq_B.of ht hP9 hD9⟩, hS.F ht⟩) hS.2.2 dX11_isWord_38
def wq_X11_isWord_3_r1 : List Cond := [Cond.code yX11_good cX11_good 1 (some .boolean), Cond.fieldLink RX11 319 "CodePressModel" "fault" "I", Cond.methodLink RX11 332 yX11_good, Cond.instanceMethod yX11_good, Cond.selects RX11 yX11_good yX11_good, Cond.initialized RX11, Cond.fieldLink RX11 25 "CodePressModel" "sort" "[I", Cond.fieldLink RX11 325 "CodePressModel" "t" "I"]
def wq_X11_isWord_3 : List Cond := Cond.code yX11_isWord cX11_isWord 2 (some .boolean) :: (wq_X11_isWord_3_r1 ++ wsX110)
theorem iq_X11_isWord_3_X11 : ∀ w ∈ wsX110, w ∈ wq_X11_isWord_3 := fun _ h => List.mem_cons_of_mem _ (List.mem_append_right _ h)
set_option maxRecDepth 20000 in
theorem gq_X11_isWord_3_X11_good_1_332_0 : GoodIn wq_X11_isWord_3 (Cond.code yX11_good cX11_good 1 (some .boolean) :: wq_X11_good_1_r1) := goodIn_r _ [1, 2] (by decide +kernel) (by decide +kernel)
set_option maxRecDepth 20000 in
theorem gq_X11_isWord_3_X11_good_1_332 : GoodIn wq_X11_isWord_3 (wsV RX11 332 RX11 yX11_good wq_X11_good_1) := goodIn_app (goodIn_r _ [3, 4, 5, 6] (by decide +kernel) (by decide +kernel)) (goodIn_ca gq_X11_isWord_3_X11_good_1_332_0 (goodIn_sub iq_X11_isWord_3_X11 guX11))
set_option maxHeartbeats 4000000 in
set_option maxRecDepth 100000 in
theorem cq_X11_isWord_3 (l : Launch) (dC : Nat → ClassId) (dI : Nat → Nat → Nat) (cB cI cJ cZ : ClassId) (h0 : Nat) (fa0 : Nat → Nat) (sz : Nat) : Met l yX11_isWord wq_X11_isWord_3 ({ frames := 1, cells := 0, slots := 0, locals := 20 }) (va_Pc [.ref h0, .int 5] (pq_W (dC, dI) vwCl (tyQ cB cI cJ cZ) [(h0, .inr (11, mo30 fa0)), ((fa0 2), .inl (cI, 3002, .inl (upd (fun _ => 0) 0 0)))] sz)) (va_Qi (fun (r : Int32) (_ : SQ) => r = 0) (fun u => pq_B (dC, dI) vwCl [((fa0 2), .inl (cI, 3002, .inl (upd (fun _ => 0) 0 0))), (h0, .inr (11, mo30 fa0))] (va_A [(h0, .inr (11, mo30 fa0)), ((fa0 2), .inl (cI, 3002, .inl (upd (fun _ => 0) 0 0)))] sz)) (va_A [(h0, .inr (11, mo30 fa0)), ((fa0 2), .inl (cI, 3002, .inl (upd (fun _ => 0) 0 0)))] sz)) 0 0 (va_A [(h0, .inr (11, mo30 fa0)), ((fa0 2), .inl (cI, 3002, .inl (upd (fun _ => 0) 0 0)))] sz) := by
  refine Met.ofW (cc := cX11_isWord) (maxL := 2) (ret := (some .boolean)) (by decide) rfl ?_
  intro p e s m args below meth c s₁ B hml hv
  obtain ⟨rfl, hsz, hP, hK, hD0⟩ := hv
  have hx := B.exec
  have hb := B.bytes
  have hr := B.returns
  have hts := atoms_spec (ws := wq_X11_isWord_3) B.pre
  have hown : s.vm.findClass RX11 = some m.cls := findClass_of_methodNamed B.named
  have hlocks := B.notSynchronized
  subst hsz
  have hD := hD0.self (sz := s.heap.size)
  generalize hAe : va_A [(h0, .inr (11, mo30 fa0)), ((fa0 2), .inl (cI, 3002, .inl (upd (fun _ => 0) 0 0)))] s.heap.size = A at hD ⊢
  have hA : ∀ q : Nat, s.heap.size ≤ q → A q := fun q h => by rw [← hAe]; exact Or.inr h
  have hS : va_S A s.heap s.heap [] := va_S.rf
  have hP : va_P (dC, dI) vwCl [(h0, .inr (11, mo30 fa0)), ((fa0 2), .inl (cI, 3002, .inl (upd (fun _ => 0) 0 0)))] s.heap := hP
  obtain ⟨H, hH⟩ : ∃ H, H = s.heap := ⟨_, rfl⟩
  rw [← hH] at hP
  have hS : va_S A s.heap H [] := by rw [hH]; exact hS
  have hl := lv_entry ([.ref h0, .int 5]) (n := 2) (Nat.le_of_ble_eq_true rfl)
  rw [lg_entry_eq]
  generalize (lg_sl ([.ref h0, .int 5]) ++ List.replicate (2 - (lg_sl ([.ref h0, .int 5])).length) Slot.unset).toArray = ls at hl ⊢
  have hl : lv_has ls 2 [(0, .ref h0), (1, .int 5)] := hl
  refine pq_heap hH ?_
  refine lv_aload_n hx hb dX11_isWord_0 rfl (lv_at hl 0 rfl) ?_
  refine pq_ci (wr := [((fa0 2), .inl (cI, 3002, .inl (upd (fun _ => 0) 0 0)))]) (W1 := (fun u => [(h0, .inr (11, mo30 fa0))])) (va_runV (As := []) (rest := []) ⟨hx, hb, hml, hown, hts⟩ (cq_X11_good_1 l dC dI cB cI cJ cZ h0 fa0 H.size) (cwV 0 hts gq_X11_isWord_3_X11_good_1_332 rfl rfl rfl (by decide +kernel) ⟨(by decide +kernel), (by decide +kernel)⟩) ⟨pq_blind, va_recv hK hP (ci := 11) (q0 := 0) rfl rfl, pq_pre hK hP hD [0] rfl rfl⟩ rfl rfl hl.1 rfl (lv_room (Nat.le_of_ble_eq_true rfl)) dX11_isWord_1 ⟨(by decide +kernel), (by decide +kernel)⟩) hP hD hS hA [0] [1] rfl rfl rfl (by decide) (fun r2 u1 H locs hw hP hD hS => ?_)
  subst hw
  have hR9 : pq_R (dC, dI) vwCl A [((fa0 2), .inl (cI, 3002, .inl (upd (fun _ => 0) 0 0))), (h0, .inr (11, mo30 fa0))] H := ⟨hP, hD⟩
  have hP := hR9.1
  have hD := hR9.2
  refine W.widen (k := 0) (n := 0) (by decide +kernel) (by decide +kernel) ?_
  refine lv_if_eq (tgt := 37) hx hb dX11_isWord_4 (by decide) (fun c_ => absurd c_ (by decide)) (fun _ => ?_)
  refine lv_aload_n hx hb dX11_isWord_7 rfl (lv_at hl 0 rfl) ?_
  refine va_get (D := (dC, dI)) (ci := 11) (v := .ref (fa0 2)) (C := RX11) (T := TX11) (N := 122) hx hb hts iq_X11_isWord_3_X11 hown hK hP 1 rfl rfl 3 (by decide) (hts (Cond.fieldLink RX11 25 "CodePressModel" "sort" "[I") (List.mem_of_getElem? (i := 7) rfl)) (fun _ h9 => h9) rfl dX11_isWord_8 ?_
  refine lv_aload_n hx hb dX11_isWord_11 rfl (lv_at hl 0 rfl) ?_
  refine va_get (D := (dC, dI)) (ci := 11) (v := .int 0) (C := RX11) (T := TX11) (N := 122) hx hb hts iq_X11_isWord_3_X11 hown hK hP 1 rfl rfl 38 (by decide) (hts (Cond.fieldLink RX11 325 "CodePressModel" "t" "I") (List.mem_of_getElem? (i := 8) rfl)) (fun _ h9 => h9) rfl dX11_isWord_12 ?_
  refine va_iald hx hb hK hP 0 1 rfl rfl (pq_in (by decide)) dX11_isWord_15 ?_
  refine lv_topi (fun x3 ex3 => ?_)
  obtain rfl : x3 = 0 := ex3.trans (by decide)
  refine lv_iconst (v := 4) hx hb dX11_isWord_16 (by decide) ?_
  refine lv_icmp_ne (tgt := 37) hx hb dX11_isWord_17 (by decide) (fun _ => ?_) (fun c_ => absurd c_ (by decide))
  refine lv_iconst (v := 0) hx hb dX11_isWord_37 (by decide) ?_
  have hP9 := pq_P.pick (wc := [((fa0 2), .inl (cI, 3002, .inl (upd (fun _ => 0) 0 0))), (h0, .inr (11, mo30 fa0))]) hP [0, 1] rfl
  have hD9 := hD.sub (ws' := [((fa0 2), .inl (cI, 3002, .inl (upd (fun _ => 0) 0 0))), (h0, .inr (11, mo30 fa0))]) [0, 1] (by decide) rfl
  refine W.widen (k := 0) (n := 0) (by decide +kernel) (by decide +kernel) ?_
  exact W.zret (v := 0) hx hb hr rfl (fun t ht hW => ⟨⟨0, sq_u [] [], rfl, rfl, pq_B.of ht hP9 hD9⟩, hS.F ht⟩) hS.2.2 dX11_isWord_38
def wq_X11_isWord_4_r1 : List Cond := [Cond.code yX11_good cX11_good 1 (some .boolean), Cond.fieldLink RX11 319 "CodePressModel" "fault" "I", Cond.methodLink RX11 332 yX11_good, Cond.instanceMethod yX11_good, Cond.selects RX11 yX11_good yX11_good, Cond.initialized RX11, Cond.fieldLink RX11 25 "CodePressModel" "sort" "[I", Cond.fieldLink RX11 325 "CodePressModel" "t" "I"]
def wq_X11_isWord_4 : List Cond := Cond.code yX11_isWord cX11_isWord 2 (some .boolean) :: (wq_X11_isWord_4_r1 ++ wsX110)
theorem iq_X11_isWord_4_X11 : ∀ w ∈ wsX110, w ∈ wq_X11_isWord_4 := fun _ h => List.mem_cons_of_mem _ (List.mem_append_right _ h)
set_option maxRecDepth 20000 in
theorem gq_X11_isWord_4_X11_good_1_332_0 : GoodIn wq_X11_isWord_4 (Cond.code yX11_good cX11_good 1 (some .boolean) :: wq_X11_good_1_r1) := goodIn_r _ [1, 2] (by decide +kernel) (by decide +kernel)
set_option maxRecDepth 20000 in
theorem gq_X11_isWord_4_X11_good_1_332 : GoodIn wq_X11_isWord_4 (wsV RX11 332 RX11 yX11_good wq_X11_good_1) := goodIn_app (goodIn_r _ [3, 4, 5, 6] (by decide +kernel) (by decide +kernel)) (goodIn_ca gq_X11_isWord_4_X11_good_1_332_0 (goodIn_sub iq_X11_isWord_4_X11 guX11))
set_option maxHeartbeats 4000000 in
set_option maxRecDepth 100000 in
theorem cq_X11_isWord_4 (l : Launch) (dC : Nat → ClassId) (dI : Nat → Nat → Nat) (cB cI cJ cZ : ClassId) (h0 : Nat) (fa0 : Nat → Nat) (sz : Nat) : Met l yX11_isWord wq_X11_isWord_4 ({ frames := 1, cells := 0, slots := 0, locals := 20 }) (va_Pc [.ref h0, .int 8] (pq_W (dC, dI) vwCl (tyQ cB cI cJ cZ) [(h0, .inr (11, mo30 fa0)), ((fa0 2), .inl (cI, 3002, .inl (upd (fun _ => 0) 0 0)))] sz)) (va_Qi (fun (r : Int32) (_ : SQ) => r = 0) (fun u => pq_B (dC, dI) vwCl [((fa0 2), .inl (cI, 3002, .inl (upd (fun _ => 0) 0 0))), (h0, .inr (11, mo30 fa0))] (va_A [(h0, .inr (11, mo30 fa0)), ((fa0 2), .inl (cI, 3002, .inl (upd (fun _ => 0) 0 0)))] sz)) (va_A [(h0, .inr (11, mo30 fa0)), ((fa0 2), .inl (cI, 3002, .inl (upd (fun _ => 0) 0 0)))] sz)) 0 0 (va_A [(h0, .inr (11, mo30 fa0)), ((fa0 2), .inl (cI, 3002, .inl (upd (fun _ => 0) 0 0)))] sz) := by
  refine Met.ofW (cc := cX11_isWord) (maxL := 2) (ret := (some .boolean)) (by decide) rfl ?_
  intro p e s m args below meth c s₁ B hml hv
  obtain ⟨rfl, hsz, hP, hK, hD0⟩ := hv
  have hx := B.exec
  have hb := B.bytes
  have hr := B.returns
  have hts := atoms_spec (ws := wq_X11_isWord_4) B.pre
  have hown : s.vm.findClass RX11 = some m.cls := findClass_of_methodNamed B.named
  have hlocks := B.notSynchronized
  subst hsz
  have hD := hD0.self (sz := s.heap.size)
  generalize hAe : va_A [(h0, .inr (11, mo30 fa0)), ((fa0 2), .inl (cI, 3002, .inl (upd (fun _ => 0) 0 0)))] s.heap.size = A at hD ⊢
  have hA : ∀ q : Nat, s.heap.size ≤ q → A q := fun q h => by rw [← hAe]; exact Or.inr h
  have hS : va_S A s.heap s.heap [] := va_S.rf
  have hP : va_P (dC, dI) vwCl [(h0, .inr (11, mo30 fa0)), ((fa0 2), .inl (cI, 3002, .inl (upd (fun _ => 0) 0 0)))] s.heap := hP
  obtain ⟨H, hH⟩ : ∃ H, H = s.heap := ⟨_, rfl⟩
  rw [← hH] at hP
  have hS : va_S A s.heap H [] := by rw [hH]; exact hS
  have hl := lv_entry ([.ref h0, .int 8]) (n := 2) (Nat.le_of_ble_eq_true rfl)
  rw [lg_entry_eq]
  generalize (lg_sl ([.ref h0, .int 8]) ++ List.replicate (2 - (lg_sl ([.ref h0, .int 8])).length) Slot.unset).toArray = ls at hl ⊢
  have hl : lv_has ls 2 [(0, .ref h0), (1, .int 8)] := hl
  refine pq_heap hH ?_
  refine lv_aload_n hx hb dX11_isWord_0 rfl (lv_at hl 0 rfl) ?_
  refine pq_ci (wr := [((fa0 2), .inl (cI, 3002, .inl (upd (fun _ => 0) 0 0)))]) (W1 := (fun u => [(h0, .inr (11, mo30 fa0))])) (va_runV (As := []) (rest := []) ⟨hx, hb, hml, hown, hts⟩ (cq_X11_good_1 l dC dI cB cI cJ cZ h0 fa0 H.size) (cwV 0 hts gq_X11_isWord_4_X11_good_1_332 rfl rfl rfl (by decide +kernel) ⟨(by decide +kernel), (by decide +kernel)⟩) ⟨pq_blind, va_recv hK hP (ci := 11) (q0 := 0) rfl rfl, pq_pre hK hP hD [0] rfl rfl⟩ rfl rfl hl.1 rfl (lv_room (Nat.le_of_ble_eq_true rfl)) dX11_isWord_1 ⟨(by decide +kernel), (by decide +kernel)⟩) hP hD hS hA [0] [1] rfl rfl rfl (by decide) (fun r2 u1 H locs hw hP hD hS => ?_)
  subst hw
  have hR9 : pq_R (dC, dI) vwCl A [((fa0 2), .inl (cI, 3002, .inl (upd (fun _ => 0) 0 0))), (h0, .inr (11, mo30 fa0))] H := ⟨hP, hD⟩
  have hP := hR9.1
  have hD := hR9.2
  refine W.widen (k := 0) (n := 0) (by decide +kernel) (by decide +kernel) ?_
  refine lv_if_eq (tgt := 37) hx hb dX11_isWord_4 (by decide) (fun c_ => absurd c_ (by decide)) (fun _ => ?_)
  refine lv_aload_n hx hb dX11_isWord_7 rfl (lv_at hl 0 rfl) ?_
  refine va_get (D := (dC, dI)) (ci := 11) (v := .ref (fa0 2)) (C := RX11) (T := TX11) (N := 122) hx hb hts iq_X11_isWord_4_X11 hown hK hP 1 rfl rfl 3 (by decide) (hts (Cond.fieldLink RX11 25 "CodePressModel" "sort" "[I") (List.mem_of_getElem? (i := 7) rfl)) (fun _ h9 => h9) rfl dX11_isWord_8 ?_
  refine lv_aload_n hx hb dX11_isWord_11 rfl (lv_at hl 0 rfl) ?_
  refine va_get (D := (dC, dI)) (ci := 11) (v := .int 0) (C := RX11) (T := TX11) (N := 122) hx hb hts iq_X11_isWord_4_X11 hown hK hP 1 rfl rfl 38 (by decide) (hts (Cond.fieldLink RX11 325 "CodePressModel" "t" "I") (List.mem_of_getElem? (i := 8) rfl)) (fun _ h9 => h9) rfl dX11_isWord_12 ?_
  refine va_iald hx hb hK hP 0 1 rfl rfl (pq_in (by decide)) dX11_isWord_15 ?_
  refine lv_topi (fun x3 ex3 => ?_)
  obtain rfl : x3 = 0 := ex3.trans (by decide)
  refine lv_iconst (v := 4) hx hb dX11_isWord_16 (by decide) ?_
  refine lv_icmp_ne (tgt := 37) hx hb dX11_isWord_17 (by decide) (fun _ => ?_) (fun c_ => absurd c_ (by decide))
  refine lv_iconst (v := 0) hx hb dX11_isWord_37 (by decide) ?_
  have hP9 := pq_P.pick (wc := [((fa0 2), .inl (cI, 3002, .inl (upd (fun _ => 0) 0 0))), (h0, .inr (11, mo30 fa0))]) hP [0, 1] rfl
  have hD9 := hD.sub (ws' := [((fa0 2), .inl (cI, 3002, .inl (upd (fun _ => 0) 0 0))), (h0, .inr (11, mo30 fa0))]) [0, 1] (by decide) rfl
  refine W.widen (k := 0) (n := 0) (by decide +kernel) (by decide +kernel) ?_
  exact W.zret (v := 0) hx hb hr rfl (fun t ht hW => ⟨⟨0, sq_u [] [], rfl, rfl, pq_B.of ht hP9 hD9⟩, hS.F ht⟩) hS.2.2 dX11_isWord_38
def wq_X11_beginsU_r1 : List Cond := [Cond.code yX11_good cX11_good 1 (some .boolean), Cond.fieldLink RX11 319 "CodePressModel" "fault" "I", Cond.methodLink RX11 332 yX11_good, Cond.instanceMethod yX11_good, Cond.selects RX11 yX11_good yX11_good, Cond.initialized RX11, Cond.fieldLink RX11 25 "CodePressModel" "sort" "[I", Cond.fieldLink RX11 325 "CodePressModel" "t" "I"]
def wq_X11_beginsU : List Cond := Cond.code yX11_beginsU cX11_beginsU 1 (some .boolean) :: (wq_X11_beginsU_r1 ++ wsX110)
theorem iq_X11_beginsU_X11 : ∀ w ∈ wsX110, w ∈ wq_X11_beginsU := fun _ h => List.mem_cons_of_mem _ (List.mem_append_right _ h)
set_option maxRecDepth 20000 in
theorem gq_X11_beginsU_X11_good_1_332_0 : GoodIn wq_X11_beginsU (Cond.code yX11_good cX11_good 1 (some .boolean) :: wq_X11_good_1_r1) := goodIn_r _ [1, 2] (by decide +kernel) (by decide +kernel)
set_option maxRecDepth 20000 in
theorem gq_X11_beginsU_X11_good_1_332 : GoodIn wq_X11_beginsU (wsV RX11 332 RX11 yX11_good wq_X11_good_1) := goodIn_app (goodIn_r _ [3, 4, 5, 6] (by decide +kernel) (by decide +kernel)) (goodIn_ca gq_X11_beginsU_X11_good_1_332_0 (goodIn_sub iq_X11_beginsU_X11 guX11))
set_option maxHeartbeats 4000000 in
set_option maxRecDepth 100000 in
theorem cq_X11_beginsU (l : Launch) (dC : Nat → ClassId) (dI : Nat → Nat → Nat) (cB cI cJ cZ : ClassId) (h0 : Nat) (fa0 : Nat → Nat) (sz : Nat) : Met l yX11_beginsU wq_X11_beginsU ({ frames := 1, cells := 0, slots := 0, locals := 20 }) (va_Pc [.ref h0] (pq_W (dC, dI) vwCl (tyQ cB cI cJ cZ) [(h0, .inr (11, mo30 fa0)), ((fa0 2), .inl (cI, 3002, .inl (upd (fun _ => 0) 0 0)))] sz)) (va_Qi (fun (r : Int32) (_ : SQ) => r = 0) (fun u => pq_B (dC, dI) vwCl [((fa0 2), .inl (cI, 3002, .inl (upd (fun _ => 0) 0 0))), (h0, .inr (11, mo30 fa0))] (va_A [(h0, .inr (11, mo30 fa0)), ((fa0 2), .inl (cI, 3002, .inl (upd (fun _ => 0) 0 0)))] sz)) (va_A [(h0, .inr (11, mo30 fa0)), ((fa0 2), .inl (cI, 3002, .inl (upd (fun _ => 0) 0 0)))] sz)) 0 0 (va_A [(h0, .inr (11, mo30 fa0)), ((fa0 2), .inl (cI, 3002, .inl (upd (fun _ => 0) 0 0)))] sz) := by
  refine Met.ofW (cc := cX11_beginsU) (maxL := 1) (ret := (some .boolean)) (by decide) rfl ?_
  intro p e s m args below meth c s₁ B hml hv
  obtain ⟨rfl, hsz, hP, hK, hD0⟩ := hv
  have hx := B.exec
  have hb := B.bytes
  have hr := B.returns
  have hts := atoms_spec (ws := wq_X11_beginsU) B.pre
  have hown : s.vm.findClass RX11 = some m.cls := findClass_of_methodNamed B.named
  have hlocks := B.notSynchronized
  subst hsz
  have hD := hD0.self (sz := s.heap.size)
  generalize hAe : va_A [(h0, .inr (11, mo30 fa0)), ((fa0 2), .inl (cI, 3002, .inl (upd (fun _ => 0) 0 0)))] s.heap.size = A at hD ⊢
  have hA : ∀ q : Nat, s.heap.size ≤ q → A q := fun q h => by rw [← hAe]; exact Or.inr h
  have hS : va_S A s.heap s.heap [] := va_S.rf
  have hP : va_P (dC, dI) vwCl [(h0, .inr (11, mo30 fa0)), ((fa0 2), .inl (cI, 3002, .inl (upd (fun _ => 0) 0 0)))] s.heap := hP
  obtain ⟨H, hH⟩ : ∃ H, H = s.heap := ⟨_, rfl⟩
  rw [← hH] at hP
  have hS : va_S A s.heap H [] := by rw [hH]; exact hS
  have hl := lv_entry ([.ref h0]) (n := 1) (Nat.le_of_ble_eq_true rfl)
  rw [lg_entry_eq]
  generalize (lg_sl ([.ref h0]) ++ List.replicate (1 - (lg_sl ([.ref h0])).length) Slot.unset).toArray = ls at hl ⊢
  have hl : lv_has ls 1 [(0, .ref h0)] := hl
  refine pq_heap hH ?_
  refine lv_aload_n hx hb dX11_beginsU_0 rfl (lv_at hl 0 rfl) ?_
  refine pq_ci (wr := [((fa0 2), .inl (cI, 3002, .inl (upd (fun _ => 0) 0 0)))]) (W1 := (fun u => [(h0, .inr (11, mo30 fa0))])) (va_runV (As := []) (rest := []) ⟨hx, hb, hml, hown, hts⟩ (cq_X11_good_1 l dC dI cB cI cJ cZ h0 fa0 H.size) (cwV 0 hts gq_X11_beginsU_X11_good_1_332 rfl rfl rfl (by decide +kernel) ⟨(by decide +kernel), (by decide +kernel)⟩) ⟨pq_blind, va_recv hK hP (ci := 11) (q0 := 0) rfl rfl, pq_pre hK hP hD [0] rfl rfl⟩ rfl rfl hl.1 rfl (lv_room (Nat.le_of_ble_eq_true rfl)) dX11_beginsU_1 ⟨(by decide +kernel), (by decide +kernel)⟩) hP hD hS hA [0] [1] rfl rfl rfl (by decide) (fun r2 u1 H locs hw hP hD hS => ?_)
  subst hw
  have hR9 : pq_R (dC, dI) vwCl A [((fa0 2), .inl (cI, 3002, .inl (upd (fun _ => 0) 0 0))), (h0, .inr (11, mo30 fa0))] H := ⟨hP, hD⟩
  have hP := hR9.1
  have hD := hR9.2
  refine W.widen (k := 0) (n := 0) (by decide +kernel) (by decide +kernel) ?_
  refine lv_if_ne (tgt := 9) hx hb dX11_beginsU_4 (by decide) (fun _ => ?_) (fun c_ => absurd c_ (by decide))
  refine lv_aload_n hx hb dX11_beginsU_9 rfl (lv_at hl 0 rfl) ?_
  refine va_get (D := (dC, dI)) (ci := 11) (v := .ref (fa0 2)) (C := RX11) (T := TX11) (N := 122) hx hb hts iq_X11_beginsU_X11 hown hK hP 1 rfl rfl 3 (by decide) (hts (Cond.fieldLink RX11 25 "CodePressModel" "sort" "[I") (List.mem_of_getElem? (i := 7) rfl)) (fun _ h9 => h9) rfl dX11_beginsU_10 ?_
  refine lv_aload_n hx hb dX11_beginsU_13 rfl (lv_at hl 0 rfl) ?_
  refine va_get (D := (dC, dI)) (ci := 11) (v := .int 0) (C := RX11) (T := TX11) (N := 122) hx hb hts iq_X11_beginsU_X11 hown hK hP 1 rfl rfl 38 (by decide) (hts (Cond.fieldLink RX11 325 "CodePressModel" "t" "I") (List.mem_of_getElem? (i := 8) rfl)) (fun _ h9 => h9) rfl dX11_beginsU_14 ?_
  refine va_iald hx hb hK hP 0 1 rfl rfl (pq_in (by decide)) dX11_beginsU_17 ?_
  refine lv_topi (fun x3 ex3 => ?_)
  obtain rfl : x3 = 0 := ex3.trans (by decide)
  refine lv_iconst (v := 3) hx hb dX11_beginsU_18 (by decide) ?_
  refine lv_icmp_eq (tgt := 35) hx hb dX11_beginsU_19 (by decide) (fun c_ => absurd c_ (by decide)) (fun _ => ?_)
  refine lv_aload_n hx hb dX11_beginsU_22 rfl (lv_at hl 0 rfl) ?_
  refine va_get (D := (dC, dI)) (ci := 11) (v := .ref (fa0 2)) (C := RX11) (T := TX11) (N := 122) hx hb hts iq_X11_beginsU_X11 hown hK hP 1 rfl rfl 3 (by decide) (hts (Cond.fieldLink RX11 25 "CodePressModel" "sort" "[I") (List.mem_of_getElem? (i := 7) rfl)) (fun _ h9 => h9) rfl dX11_beginsU_23 ?_
  refine lv_aload_n hx hb dX11_beginsU_26 rfl (lv_at hl 0 rfl) ?_
  refine va_get (D := (dC, dI)) (ci := 11) (v := .int 0) (C := RX11) (T := TX11) (N := 122) hx hb hts iq_X11_beginsU_X11 hown hK hP 1 rfl rfl 38 (by decide) (hts (Cond.fieldLink RX11 325 "CodePressModel" "t" "I") (List.mem_of_getElem? (i := 8) rfl)) (fun _ h9 => h9) rfl dX11_beginsU_27 ?_
  refine va_iald hx hb hK hP 0 1 rfl rfl (pq_in (by decide)) dX11_beginsU_30 ?_
  refine lv_topi (fun x4 ex4 => ?_)
  obtain rfl : x4 = 0 := ex4.trans (by decide)
  refine lv_iconst (v := 2) hx hb dX11_beginsU_31 (by decide) ?_
  refine lv_icmp_ne (tgt := 37) hx hb dX11_beginsU_32 (by decide) (fun _ => ?_) (fun c_ => absurd c_ (by decide))
  refine lv_aload_n hx hb dX11_beginsU_37 rfl (lv_at hl 0 rfl) ?_
  refine va_get (D := (dC, dI)) (ci := 11) (v := .ref (fa0 2)) (C := RX11) (T := TX11) (N := 122) hx hb hts iq_X11_beginsU_X11 hown hK hP 1 rfl rfl 3 (by decide) (hts (Cond.fieldLink RX11 25 "CodePressModel" "sort" "[I") (List.mem_of_getElem? (i := 7) rfl)) (fun _ h9 => h9) rfl dX11_beginsU_38 ?_
  refine lv_aload_n hx hb dX11_beginsU_41 rfl (lv_at hl 0 rfl) ?_
  refine va_get (D := (dC, dI)) (ci := 11) (v := .int 0) (C := RX11) (T := TX11) (N := 122) hx hb hts iq_X11_beginsU_X11 hown hK hP 1 rfl rfl 38 (by decide) (hts (Cond.fieldLink RX11 325 "CodePressModel" "t" "I") (List.mem_of_getElem? (i := 8) rfl)) (fun _ h9 => h9) rfl dX11_beginsU_42 ?_
  refine va_iald hx hb hK hP 0 1 rfl rfl (pq_in (by decide)) dX11_beginsU_45 ?_
  refine lv_topi (fun x5 ex5 => ?_)
  obtain rfl : x5 = 0 := ex5.trans (by decide)
  refine lv_iconst (v := 5) hx hb dX11_beginsU_46 (by decide) ?_
  refine lv_icmp_ne (tgt := 98) hx hb dX11_beginsU_47 (by decide) (fun _ => ?_) (fun c_ => absurd c_ (by decide))
  refine lv_aload_n hx hb dX11_beginsU_98 rfl (lv_at hl 0 rfl) ?_
  refine va_get (D := (dC, dI)) (ci := 11) (v := .ref (fa0 2)) (C := RX11) (T := TX11) (N := 122) hx hb hts iq_X11_beginsU_X11 hown hK hP 1 rfl rfl 3 (by decide) (hts (Cond.fieldLink RX11 25 "CodePressModel" "sort" "[I") (List.mem_of_getElem? (i := 7) rfl)) (fun _ h9 => h9) rfl dX11_beginsU_99 ?_
  refine lv_aload_n hx hb dX11_beginsU_102 rfl (lv_at hl 0 rfl) ?_
  refine va_get (D := (dC, dI)) (ci := 11) (v := .int 0) (C := RX11) (T := TX11) (N := 122) hx hb hts iq_X11_beginsU_X11 hown hK hP 1 rfl rfl 38 (by decide) (hts (Cond.fieldLink RX11 325 "CodePressModel" "t" "I") (List.mem_of_getElem? (i := 8) rfl)) (fun _ h9 => h9) rfl dX11_beginsU_103 ?_
  refine va_iald hx hb hK hP 0 1 rfl rfl (pq_in (by decide)) dX11_beginsU_106 ?_
  refine lv_topi (fun x6 ex6 => ?_)
  obtain rfl : x6 = 0 := ex6.trans (by decide)
  refine lv_iconst (v := 4) hx hb dX11_beginsU_107 (by decide) ?_
  refine lv_icmp_ne (tgt := 143) hx hb dX11_beginsU_108 (by decide) (fun _ => ?_) (fun c_ => absurd c_ (by decide))
  refine lv_iconst (v := 0) hx hb dX11_beginsU_143 (by decide) ?_
  have hP9 := pq_P.pick (wc := [((fa0 2), .inl (cI, 3002, .inl (upd (fun _ => 0) 0 0))), (h0, .inr (11, mo30 fa0))]) hP [0, 1] rfl
  have hD9 := hD.sub (ws' := [((fa0 2), .inl (cI, 3002, .inl (upd (fun _ => 0) 0 0))), (h0, .inr (11, mo30 fa0))]) [0, 1] (by decide) rfl
  refine W.widen (k := 0) (n := 0) (by decide +kernel) (by decide +kernel) ?_
  exact W.zret (v := 0) hx hb hr rfl (fun t ht hW => ⟨⟨0, sq_u [] [], rfl, rfl, pq_B.of ht hP9 hD9⟩, hS.F ht⟩) hS.2.2 dX11_beginsU_144
def wq_X11_fails_r1 : List Cond := [Cond.fieldLink RX11 319 "CodePressModel" "fault" "I", Cond.fieldLink RX11 322 "CodePressModel" "place" "I"]
def wq_X11_fails : List Cond := Cond.code yX11_fails cX11_fails 3 none :: (wq_X11_fails_r1 ++ wsX110)
theorem iq_X11_fails_X11 : ∀ w ∈ wsX110, w ∈ wq_X11_fails := fun _ h => List.mem_cons_of_mem _ (List.mem_append_right _ h)
set_option maxHeartbeats 4000000 in
set_option maxRecDepth 100000 in
theorem cq_X11_fails (l : Launch) (dC : Nat → ClassId) (dI : Nat → Nat → Nat) (cB cI cJ cZ : ClassId) (h0 : Nat) (fa0 : Nat → Nat) (sz : Nat) : Met l yX11_fails wq_X11_fails ({ frames := 0, cells := 0, slots := 0, locals := 0 }) (va_Pc [.ref h0, .int 1, .int 0] (pq_W (dC, dI) vwCl (tyQ cB cI cJ cZ) [(h0, .inr (11, mo30 fa0))] sz)) (va_Qv (fun (_ : SQ) => True) (fun u => pq_B (dC, dI) vwCl [(h0, .inr (11, mo31 fa0))] (va_A [(h0, .inr (11, mo30 fa0))] sz)) (va_A [(h0, .inr (11, mo30 fa0))] sz)) 0 0 (va_A [(h0, .inr (11, mo30 fa0))] sz) := by
  refine Met.ofW (cc := cX11_fails) (maxL := 3) (ret := none) (by decide) rfl ?_
  intro p e s m args below meth c s₁ B hml hv
  obtain ⟨rfl, hsz, hP, hK, hD0⟩ := hv
  have hx := B.exec
  have hb := B.bytes
  have hr := B.returns
  have hts := atoms_spec (ws := wq_X11_fails) B.pre
  have hown : s.vm.findClass RX11 = some m.cls := findClass_of_methodNamed B.named
  have hlocks := B.notSynchronized
  subst hsz
  have hD := hD0.self (sz := s.heap.size)
  generalize hAe : va_A [(h0, .inr (11, mo30 fa0))] s.heap.size = A at hD ⊢
  have hA : ∀ q : Nat, s.heap.size ≤ q → A q := fun q h => by rw [← hAe]; exact Or.inr h
  have hS : va_S A s.heap s.heap [] := va_S.rf
  have hP : va_P (dC, dI) vwCl [(h0, .inr (11, mo30 fa0))] s.heap := hP
  obtain ⟨H, hH⟩ : ∃ H, H = s.heap := ⟨_, rfl⟩
  rw [← hH] at hP
  have hS : va_S A s.heap H [] := by rw [hH]; exact hS
  have hl := lv_entry ([.ref h0, .int 1, .int 0]) (n := 3) (Nat.le_of_ble_eq_true rfl)
  rw [lg_entry_eq]
  generalize (lg_sl ([.ref h0, .int 1, .int 0]) ++ List.replicate (3 - (lg_sl ([.ref h0, .int 1, .int 0])).length) Slot.unset).toArray = ls at hl ⊢
  have hl : lv_has ls 3 [(0, .ref h0), (1, .int 1), (2, .int 0)] := hl
  refine pq_heap hH ?_
  refine lv_aload_n hx hb dX11_fails_0 rfl (lv_at hl 0 rfl) ?_
  refine va_get (D := (dC, dI)) (ci := 11) (v := .int 0) (C := RX11) (T := TX11) (N := 122) hx hb hts iq_X11_fails_X11 hown hK hP 0 rfl rfl 40 (by decide) (hts (Cond.fieldLink RX11 319 "CodePressModel" "fault" "I") (List.mem_of_getElem? (i := 1) rfl)) (fun _ h9 => h9) rfl dX11_fails_1 ?_
  refine lv_if_le (tgt := 8) hx hb dX11_fails_4 (by decide) (fun _ => ?_) (fun c_ => absurd (by decide) c_)
  refine lv_aload_n hx hb dX11_fails_8 rfl (lv_at hl 0 rfl) ?_
  refine lv_iload_n hx hb dX11_fails_9 rfl (lv_at hl 1 rfl) ?_
  refine va_put (D := (dC, dI)) (ci := 11) (v := .int 1) (ty := .int) (C := RX11) (T := TX11) (N := 122) hx hb hts iq_X11_fails_X11 tyX11 tyX11_ok nmX11 hown hK hP hD hS 0 rfl rfl 40 (by decide) (hts (Cond.fieldLink RX11 319 "CodePressModel" "fault" "I") (List.mem_of_getElem? (i := 1) rfl)) (fun _ h9 => h9) rfl (by decide +kernel) rfl rfl (Nat.le_of_ble_eq_true rfl) dX11_fails_10 (fun H locs hP hD hS => ?_)
  have hR9 : pq_R (dC, dI) vwCl A [(h0, .inr (11, mo31 fa0))] H := ⟨hP, hD⟩
  have hP := hR9.1
  have hD := hR9.2
  refine lv_aload_n hx hb dX11_fails_13 rfl (lv_at hl 0 rfl) ?_
  refine lv_iload_n hx hb dX11_fails_14 rfl (lv_at hl 2 rfl) ?_
  refine va_put (D := (dC, dI)) (ci := 11) (v := .int 0) (ty := .int) (C := RX11) (T := TX11) (N := 122) hx hb hts iq_X11_fails_X11 tyX11 tyX11_ok nmX11 hown hK hP hD hS 0 rfl rfl 41 (by decide) (hts (Cond.fieldLink RX11 322 "CodePressModel" "place" "I") (List.mem_of_getElem? (i := 2) rfl)) (fun _ h9 => h9) rfl (by decide +kernel) rfl rfl (Nat.le_of_ble_eq_true rfl) dX11_fails_15 (fun H locs hP hD hS => ?_)
  have hR9 : pq_R (dC, dI) vwCl A [(h0, .inr (11, mo31 fa0))] H := ⟨hP, hD⟩
  have hP := hR9.1
  have hD := hR9.2
  have hP9 := pq_P.pick (wc := [(h0, .inr (11, mo31 fa0))]) hP [0] rfl
  have hD9 := hD.sub (ws' := [(h0, .inr (11, mo31 fa0))]) [0] (by decide) rfl
  refine W.widen (k := 0) (n := 0) (by decide +kernel) (by decide +kernel) ?_
  exact W.vret hx hb hr (fun t ht hW => ⟨⟨sq_u [] [], rfl, trivial, pq_B.of ht hP9 hD9⟩, hS.F ht⟩) hS.2.2 dX11_fails_18
def wq_X11_failsHere_r1 : List Cond := [Cond.fieldLink RX11 28 "CodePressModel" "at" "[I", Cond.fieldLink RX11 325 "CodePressModel" "t" "I", Cond.code yX11_fails cX11_fails 3 none, Cond.fieldLink RX11 319 "CodePressModel" "fault" "I", Cond.fieldLink RX11 322 "CodePressModel" "place" "I", Cond.methodLink RX11 328 yX11_fails, Cond.instanceMethod yX11_fails, Cond.selects RX11 yX11_fails yX11_fails, Cond.initialized RX11]
def wq_X11_failsHere : List Cond := Cond.code yX11_failsHere cX11_failsHere 2 none :: (wq_X11_failsHere_r1 ++ wsX110)
theorem iq_X11_failsHere_X11 : ∀ w ∈ wsX110, w ∈ wq_X11_failsHere := fun _ h => List.mem_cons_of_mem _ (List.mem_append_right _ h)
set_option maxRecDepth 20000 in
theorem gq_X11_failsHere_X11_fails_328_0 : GoodIn wq_X11_failsHere (Cond.code yX11_fails cX11_fails 3 none :: wq_X11_fails_r1) := goodIn_r _ [3, 4, 5] (by decide +kernel) (by decide +kernel)
set_option maxRecDepth 20000 in
theorem gq_X11_failsHere_X11_fails_328 : GoodIn wq_X11_failsHere (wsV RX11 328 RX11 yX11_fails wq_X11_fails) := goodIn_app (goodIn_r _ [6, 7, 8, 9] (by decide +kernel) (by decide +kernel)) (goodIn_ca gq_X11_failsHere_X11_fails_328_0 (goodIn_sub iq_X11_failsHere_X11 guX11))
set_option maxHeartbeats 4000000 in
set_option maxRecDepth 100000 in
theorem cq_X11_failsHere (l : Launch) (dC : Nat → ClassId) (dI : Nat → Nat → Nat) (cB cI cJ cZ : ClassId) (h0 : Nat) (fa0 : Nat → Nat) (sz : Nat) : Met l yX11_failsHere wq_X11_failsHere ({ frames := 1, cells := 0, slots := 0, locals := 22 }) (va_Pc [.ref h0, .int 1] (pq_W (dC, dI) vwCl (tyQ cB cI cJ cZ) [(h0, .inr (11, mo30 fa0)), ((fa0 3), .inl (cI, 3002, .inl (upd (fun _ => 0) 0 0)))] sz)) (va_Qv (fun (_ : SQ) => True) (fun u => pq_B (dC, dI) vwCl [((fa0 3), .inl (cI, 3002, .inl (upd (fun _ => 0) 0 0))), (h0, .inr (11, mo31 fa0))] (va_A [(h0, .inr (11, mo30 fa0)), ((fa0 3), .inl (cI, 3002, .inl (upd (fun _ => 0) 0 0)))] sz)) (va_A [(h0, .inr (11, mo30 fa0)), ((fa0 3), .inl (cI, 3002, .inl (upd (fun _ => 0) 0 0)))] sz)) 0 0 (va_A [(h0, .inr (11, mo30 fa0)), ((fa0 3), .inl (cI, 3002, .inl (upd (fun _ => 0) 0 0)))] sz) := by
  refine Met.ofW (cc := cX11_failsHere) (maxL := 2) (ret := none) (by decide) rfl ?_
  intro p e s m args below meth c s₁ B hml hv
  obtain ⟨rfl, hsz, hP, hK, hD0⟩ := hv
  have hx := B.exec
  have hb := B.bytes
  have hr := B.returns
  have hts := atoms_spec (ws := wq_X11_failsHere) B.pre
  have hown : s.vm.findClass RX11 = some m.cls := findClass_of_methodNamed B.named
  have hlocks := B.notSynchronized
  subst hsz
  have hD := hD0.self (sz := s.heap.size)
  generalize hAe : va_A [(h0, .inr (11, mo30 fa0)), ((fa0 3), .inl (cI, 3002, .inl (upd (fun _ => 0) 0 0)))] s.heap.size = A at hD ⊢
  have hA : ∀ q : Nat, s.heap.size ≤ q → A q := fun q h => by rw [← hAe]; exact Or.inr h
  have hS : va_S A s.heap s.heap [] := va_S.rf
  have hP : va_P (dC, dI) vwCl [(h0, .inr (11, mo30 fa0)), ((fa0 3), .inl (cI, 3002, .inl (upd (fun _ => 0) 0 0)))] s.heap := hP
  obtain ⟨H, hH⟩ : ∃ H, H = s.heap := ⟨_, rfl⟩
  rw [← hH] at hP
  have hS : va_S A s.heap H [] := by rw [hH]; exact hS
  have hl := lv_entry ([.ref h0, .int 1]) (n := 2) (Nat.le_of_ble_eq_true rfl)
  rw [lg_entry_eq]
  generalize (lg_sl ([.ref h0, .int 1]) ++ List.replicate (2 - (lg_sl ([.ref h0, .int 1])).length) Slot.unset).toArray = ls at hl ⊢
  have hl : lv_has ls 2 [(0, .ref h0), (1, .int 1)] := hl
  refine pq_heap hH ?_
  refine lv_aload_n hx hb dX11_failsHere_0 rfl (lv_at hl 0 rfl) ?_
  refine lv_iload_n hx hb dX11_failsHere_1 rfl (lv_at hl 1 rfl) ?_
  refine lv_aload_n hx hb dX11_failsHere_2 rfl (lv_at hl 0 rfl) ?_
  refine va_get (D := (dC, dI)) (ci := 11) (v := .ref (fa0 3)) (C := RX11) (T := TX11) (N := 122) hx hb hts iq_X11_failsHere_X11 hown hK hP 0 rfl rfl 4 (by decide) (hts (Cond.fieldLink RX11 28 "CodePressModel" "at" "[I") (List.mem_of_getElem? (i := 1) rfl)) (fun _ h9 => h9) rfl dX11_failsHere_3 ?_
  refine lv_aload_n hx hb dX11_failsHere_6 rfl (lv_at hl 0 rfl) ?_
  refine va_get (D := (dC, dI)) (ci := 11) (v := .int 0) (C := RX11) (T := TX11) (N := 122) hx hb hts iq_X11_failsHere_X11 hown hK hP 0 rfl rfl 38 (by decide) (hts (Cond.fieldLink RX11 325 "CodePressModel" "t" "I") (List.mem_of_getElem? (i := 2) rfl)) (fun _ h9 => h9) rfl dX11_failsHere_7 ?_
  refine va_iald hx hb hK hP 1 1 rfl rfl (pq_in (by decide)) dX11_failsHere_10 ?_
  refine lv_topi (fun x1 ex1 => ?_)
  obtain rfl : x1 = 0 := ex1.trans (by decide)
  refine pq_cv (wr := [((fa0 3), .inl (cI, 3002, .inl (upd (fun _ => 0) 0 0)))]) (W1 := (fun u => [(h0, .inr (11, mo31 fa0))])) (va_runV (As := [.int 1, .int 0]) (rest := []) ⟨hx, hb, hml, hown, hts⟩ (cq_X11_fails l dC dI cB cI cJ cZ h0 fa0 H.size) (cwV 2 hts gq_X11_failsHere_X11_fails_328 rfl rfl rfl (by decide +kernel) ⟨(by decide +kernel), (by decide +kernel)⟩) ⟨pq_blind, va_recv hK hP (ci := 11) (q0 := 0) rfl rfl, pq_pre hK hP hD [0] rfl rfl⟩ rfl rfl hl.1 rfl (lv_room (Nat.le_of_ble_eq_true rfl)) dX11_failsHere_11 ⟨(by decide +kernel), (by decide +kernel)⟩) hP hD hS hA [0] [1] rfl rfl rfl (by decide) (fun u2 H locs hw hP hD hS => ?_)
  have hR9 : pq_R (dC, dI) vwCl A [((fa0 3), .inl (cI, 3002, .inl (upd (fun _ => 0) 0 0))), (h0, .inr (11, mo31 fa0))] H := ⟨hP, hD⟩
  have hP := hR9.1
  have hD := hR9.2
  refine W.widen (k := 0) (n := 0) (by decide +kernel) (by decide +kernel) ?_
  have hP9 := pq_P.pick (wc := [((fa0 3), .inl (cI, 3002, .inl (upd (fun _ => 0) 0 0))), (h0, .inr (11, mo31 fa0))]) hP [0, 1] rfl
  have hD9 := hD.sub (ws' := [((fa0 3), .inl (cI, 3002, .inl (upd (fun _ => 0) 0 0))), (h0, .inr (11, mo31 fa0))]) [0, 1] (by decide) rfl
  refine W.widen (k := 0) (n := 0) (by decide +kernel) (by decide +kernel) ?_
  exact W.vret hx hb hr (fun t ht hW => ⟨⟨sq_u [] [], rfl, trivial, pq_B.of ht hP9 hD9⟩, hS.F ht⟩) hS.2.2 dX11_failsHere_14
def wq_X11_readU_r1 : List Cond := [Cond.code yX11_good cX11_good 1 (some .boolean), Cond.fieldLink RX11 319 "CodePressModel" "fault" "I", Cond.methodLink RX11 332 yX11_good, Cond.instanceMethod yX11_good, Cond.selects RX11 yX11_good yX11_good, Cond.initialized RX11, Cond.fieldLink RX11 325 "CodePressModel" "t" "I", Cond.code yX11_beginsU cX11_beginsU 1 (some .boolean), Cond.fieldLink RX11 25 "CodePressModel" "sort" "[I", Cond.methodLink RX11 423 yX11_beginsU, Cond.instanceMethod yX11_beginsU, Cond.selects RX11 yX11_beginsU yX11_beginsU, Cond.code yX11_failsHere cX11_failsHere 2 none, Cond.fieldLink RX11 28 "CodePressModel" "at" "[I", Cond.code yX11_fails cX11_fails 3 none, Cond.fieldLink RX11 322 "CodePressModel" "place" "I", Cond.methodLink RX11 328 yX11_fails, Cond.instanceMethod yX11_fails, Cond.selects RX11 yX11_fails yX11_fails, Cond.methodLink RX11 336 yX11_failsHere, Cond.instanceMethod yX11_failsHere, Cond.selects RX11 yX11_failsHere yX11_failsHere]
def wq_X11_readU : List Cond := Cond.code yX11_readU cX11_readU 5 (some .int) :: (wq_X11_readU_r1 ++ wsX110)
theorem iq_X11_readU_X11 : ∀ w ∈ wsX110, w ∈ wq_X11_readU := fun _ h => List.mem_cons_of_mem _ (List.mem_append_right _ h)
set_option maxRecDepth 20000 in
theorem gq_X11_readU_X11_good_1_332_0 : GoodIn wq_X11_readU (Cond.code yX11_good cX11_good 1 (some .boolean) :: wq_X11_good_1_r1) := goodIn_r _ [1, 2] (by decide +kernel) (by decide +kernel)
set_option maxRecDepth 20000 in
theorem gq_X11_readU_X11_good_1_332 : GoodIn wq_X11_readU (wsV RX11 332 RX11 yX11_good wq_X11_good_1) := goodIn_app (goodIn_r _ [3, 4, 5, 6] (by decide +kernel) (by decide +kernel)) (goodIn_ca gq_X11_readU_X11_good_1_332_0 (goodIn_sub iq_X11_readU_X11 guX11))
set_option maxRecDepth 20000 in
theorem gq_X11_readU_X11_beginsU_423_0 : GoodIn wq_X11_readU (Cond.code yX11_beginsU cX11_beginsU 1 (some .boolean) :: wq_X11_beginsU_r1) := goodIn_r _ [8, 1, 2, 3, 4, 5, 6, 9, 7] (by decide +kernel) (by decide +kernel)
set_option maxRecDepth 20000 in
theorem gq_X11_readU_X11_beginsU_423 : GoodIn wq_X11_readU (wsV RX11 423 RX11 yX11_beginsU wq_X11_beginsU) := goodIn_app (goodIn_r _ [10, 11, 12, 6] (by decide +kernel) (by decide +kernel)) (goodIn_ca gq_X11_readU_X11_beginsU_423_0 (goodIn_sub iq_X11_readU_X11 guX11))
set_option maxRecDepth 20000 in
theorem gq_X11_readU_X11_failsHere_336_0 : GoodIn wq_X11_readU (Cond.code yX11_failsHere cX11_failsHere 2 none :: wq_X11_failsHere_r1) := goodIn_r _ [13, 14, 7, 15, 2, 16, 17, 18, 19, 6] (by decide +kernel) (by decide +kernel)
set_option maxRecDepth 20000 in
theorem gq_X11_readU_X11_failsHere_336 : GoodIn wq_X11_readU (wsV RX11 336 RX11 yX11_failsHere wq_X11_failsHere) := goodIn_app (goodIn_r _ [20, 21, 22, 6] (by decide +kernel) (by decide +kernel)) (goodIn_ca gq_X11_readU_X11_failsHere_336_0 (goodIn_sub iq_X11_readU_X11 guX11))
set_option maxHeartbeats 4000000 in
set_option maxRecDepth 100000 in
theorem cq_X11_readU (l : Launch) (dC : Nat → ClassId) (dI : Nat → Nat → Nat) (cB cI cJ cZ : ClassId) (h0 : Nat) (fa0 : Nat → Nat) (sz : Nat) : Met l yX11_readU wq_X11_readU ({ frames := 2, cells := 0, slots := 0, locals := 43 }) (va_Pc [.ref h0] (pq_W (dC, dI) vwCl (tyQ cB cI cJ cZ) [(h0, .inr (11, mo30 fa0)), ((fa0 2), .inl (cI, 3002, .inl (upd (fun _ => 0) 0 0))), ((fa0 3), .inl (cI, 3002, .inl (upd (fun _ => 0) 0 0)))] sz)) (va_Qi (fun (r : Int32) (_ : SQ) => r = (-1)) (fun u => pq_B (dC, dI) vwCl [((fa0 2), .inl (cI, 3002, .inl (upd (fun _ => 0) 0 0))), ((fa0 3), .inl (cI, 3002, .inl (upd (fun _ => 0) 0 0))), (h0, .inr (11, mo31 fa0))] (va_A [(h0, .inr (11, mo30 fa0)), ((fa0 2), .inl (cI, 3002, .inl (upd (fun _ => 0) 0 0))), ((fa0 3), .inl (cI, 3002, .inl (upd (fun _ => 0) 0 0)))] sz)) (va_A [(h0, .inr (11, mo30 fa0)), ((fa0 2), .inl (cI, 3002, .inl (upd (fun _ => 0) 0 0))), ((fa0 3), .inl (cI, 3002, .inl (upd (fun _ => 0) 0 0)))] sz)) 0 0 (va_A [(h0, .inr (11, mo30 fa0)), ((fa0 2), .inl (cI, 3002, .inl (upd (fun _ => 0) 0 0))), ((fa0 3), .inl (cI, 3002, .inl (upd (fun _ => 0) 0 0)))] sz) := by
  refine Met.ofW (cc := cX11_readU) (maxL := 5) (ret := (some .int)) (by decide) rfl ?_
  intro p e s m args below meth c s₁ B hml hv
  obtain ⟨rfl, hsz, hP, hK, hD0⟩ := hv
  have hx := B.exec
  have hb := B.bytes
  have hr := B.returns
  have hts := atoms_spec (ws := wq_X11_readU) B.pre
  have hown : s.vm.findClass RX11 = some m.cls := findClass_of_methodNamed B.named
  have hlocks := B.notSynchronized
  subst hsz
  have hD := hD0.self (sz := s.heap.size)
  generalize hAe : va_A [(h0, .inr (11, mo30 fa0)), ((fa0 2), .inl (cI, 3002, .inl (upd (fun _ => 0) 0 0))), ((fa0 3), .inl (cI, 3002, .inl (upd (fun _ => 0) 0 0)))] s.heap.size = A at hD ⊢
  have hA : ∀ q : Nat, s.heap.size ≤ q → A q := fun q h => by rw [← hAe]; exact Or.inr h
  have hS : va_S A s.heap s.heap [] := va_S.rf
  have hP : va_P (dC, dI) vwCl [(h0, .inr (11, mo30 fa0)), ((fa0 2), .inl (cI, 3002, .inl (upd (fun _ => 0) 0 0))), ((fa0 3), .inl (cI, 3002, .inl (upd (fun _ => 0) 0 0)))] s.heap := hP
  obtain ⟨H, hH⟩ : ∃ H, H = s.heap := ⟨_, rfl⟩
  rw [← hH] at hP
  have hS : va_S A s.heap H [] := by rw [hH]; exact hS
  have hl := lv_entry ([.ref h0]) (n := 5) (Nat.le_of_ble_eq_true rfl)
  rw [lg_entry_eq]
  generalize (lg_sl ([.ref h0]) ++ List.replicate (5 - (lg_sl ([.ref h0])).length) Slot.unset).toArray = ls at hl ⊢
  have hl : lv_has ls 5 [(0, .ref h0)] := hl
  refine pq_heap hH ?_
  refine lv_aload_n hx hb dX11_readU_0 rfl (lv_at hl 0 rfl) ?_
  refine pq_ci (wr := [((fa0 2), .inl (cI, 3002, .inl (upd (fun _ => 0) 0 0))), ((fa0 3), .inl (cI, 3002, .inl (upd (fun _ => 0) 0 0)))]) (W1 := (fun u => [(h0, .inr (11, mo30 fa0))])) (va_runV (As := []) (rest := []) ⟨hx, hb, hml, hown, hts⟩ (cq_X11_good_1 l dC dI cB cI cJ cZ h0 fa0 H.size) (cwV 0 hts gq_X11_readU_X11_good_1_332 rfl rfl rfl (by decide +kernel) ⟨(by decide +kernel), (by decide +kernel)⟩) ⟨pq_blind, va_recv hK hP (ci := 11) (q0 := 0) rfl rfl, pq_pre hK hP hD [0] rfl rfl⟩ rfl rfl hl.1 rfl (lv_room (Nat.le_of_ble_eq_true rfl)) dX11_readU_1 ⟨(by decide +kernel), (by decide +kernel)⟩) hP hD hS hA [0] [1, 2] rfl rfl rfl (by decide) (fun r2 u1 H locs hw hP hD hS => ?_)
  subst hw
  have hR9 : pq_R (dC, dI) vwCl A [((fa0 2), .inl (cI, 3002, .inl (upd (fun _ => 0) 0 0))), ((fa0 3), .inl (cI, 3002, .inl (upd (fun _ => 0) 0 0))), (h0, .inr (11, mo30 fa0))] H := ⟨hP, hD⟩
  have hP := hR9.1
  have hD := hR9.2
  refine W.widen (k := 0) (n := 0) (by decide +kernel) (by decide +kernel) ?_
  refine lv_if_ne (tgt := 9) hx hb dX11_readU_4 (by decide) (fun _ => ?_) (fun c_ => absurd c_ (by decide))
  refine lv_aload_n hx hb dX11_readU_9 rfl (lv_at hl 0 rfl) ?_
  refine va_get (D := (dC, dI)) (ci := 11) (v := .int 0) (C := RX11) (T := TX11) (N := 122) hx hb hts iq_X11_readU_X11 hown hK hP 2 rfl rfl 38 (by decide) (hts (Cond.fieldLink RX11 325 "CodePressModel" "t" "I") (List.mem_of_getElem? (i := 7) rfl)) (fun _ h9 => h9) rfl dX11_readU_10 ?_
  refine lv_istore_n (lv' := [(1, .int 0), (0, .ref h0)]) hx hb dX11_readU_13 rfl hl (by decide) rfl (fun ls hl => ?_)
  refine lv_iconst (v := (-1)) hx hb dX11_readU_14 (by decide) ?_
  refine lv_istore_n (lv' := [(2, .int (-1)), (1, .int 0), (0, .ref h0)]) hx hb dX11_readU_15 rfl hl (by decide) rfl (fun ls hl => ?_)
  refine lv_aload_n hx hb dX11_readU_16 rfl (lv_at hl 2 rfl) ?_
  refine pq_ci (wr := [((fa0 3), .inl (cI, 3002, .inl (upd (fun _ => 0) 0 0)))]) (W1 := (fun u => [((fa0 2), .inl (cI, 3002, .inl (upd (fun _ => 0) 0 0))), (h0, .inr (11, mo30 fa0))])) (va_runV (As := []) (rest := []) ⟨hx, hb, hml, hown, hts⟩ (cq_X11_beginsU l dC dI cB cI cJ cZ h0 fa0 H.size) (cwV 0 hts gq_X11_readU_X11_beginsU_423 rfl rfl rfl (by decide +kernel) ⟨(by decide +kernel), (by decide +kernel)⟩) ⟨pq_blind, va_recv hK hP (ci := 11) (q0 := 2) rfl rfl, pq_pre hK hP hD [2, 0] rfl rfl⟩ rfl rfl hl.1 rfl (lv_room (Nat.le_of_ble_eq_true rfl)) dX11_readU_17 ⟨(by decide +kernel), (by decide +kernel)⟩) hP hD hS hA [2, 0] [1] rfl rfl rfl (by decide) (fun r4 u3 H locs hw hP hD hS => ?_)
  subst hw
  have hR9 : pq_R (dC, dI) vwCl A [((fa0 3), .inl (cI, 3002, .inl (upd (fun _ => 0) 0 0))), ((fa0 2), .inl (cI, 3002, .inl (upd (fun _ => 0) 0 0))), (h0, .inr (11, mo30 fa0))] H := ⟨hP, hD⟩
  have hP := hR9.1
  have hD := hR9.2
  refine W.widen (k := 0) (n := 0) (by decide +kernel) (by decide +kernel) ?_
  refine lv_if_ne (tgt := 30) hx hb dX11_readU_20 (by decide) (fun c_ => absurd (by decide) c_) (fun _ => ?_)
  refine lv_aload_n hx hb dX11_readU_23 rfl (lv_at hl 2 rfl) ?_
  refine lv_iconst (v := 1) hx hb dX11_readU_24 (by decide) ?_
  refine pq_cv (wr := [((fa0 2), .inl (cI, 3002, .inl (upd (fun _ => 0) 0 0)))]) (W1 := (fun u => [((fa0 3), .inl (cI, 3002, .inl (upd (fun _ => 0) 0 0))), (h0, .inr (11, mo31 fa0))])) (va_runV (As := [.int 1]) (rest := []) ⟨hx, hb, hml, hown, hts⟩ (cq_X11_failsHere l dC dI cB cI cJ cZ h0 fa0 H.size) (cwV 1 hts gq_X11_readU_X11_failsHere_336 rfl rfl rfl (by decide +kernel) ⟨(by decide +kernel), (by decide +kernel)⟩) ⟨pq_blind, va_recv hK hP (ci := 11) (q0 := 2) rfl rfl, pq_pre hK hP hD [2, 0] rfl rfl⟩ rfl rfl hl.1 rfl (lv_room (Nat.le_of_ble_eq_true rfl)) dX11_readU_25 ⟨(by decide +kernel), (by decide +kernel)⟩) hP hD hS hA [2, 0] [1] rfl rfl rfl (by decide) (fun u5 H locs hw hP hD hS => ?_)
  have hR9 : pq_R (dC, dI) vwCl A [((fa0 2), .inl (cI, 3002, .inl (upd (fun _ => 0) 0 0))), ((fa0 3), .inl (cI, 3002, .inl (upd (fun _ => 0) 0 0))), (h0, .inr (11, mo31 fa0))] H := ⟨hP, hD⟩
  have hP := hR9.1
  have hD := hR9.2
  refine W.widen (k := 0) (n := 0) (by decide +kernel) (by decide +kernel) ?_
  refine lv_iconst (v := (-1)) hx hb dX11_readU_28 (by decide) ?_
  have hP9 := pq_P.pick (wc := [((fa0 2), .inl (cI, 3002, .inl (upd (fun _ => 0) 0 0))), ((fa0 3), .inl (cI, 3002, .inl (upd (fun _ => 0) 0 0))), (h0, .inr (11, mo31 fa0))]) hP [0, 1, 2] rfl
  have hD9 := hD.sub (ws' := [((fa0 2), .inl (cI, 3002, .inl (upd (fun _ => 0) 0 0))), ((fa0 3), .inl (cI, 3002, .inl (upd (fun _ => 0) 0 0))), (h0, .inr (11, mo31 fa0))]) [0, 1, 2] (by decide) rfl
  refine W.widen (k := 0) (n := 0) (by decide +kernel) (by decide +kernel) ?_
  exact W.iret (v := (-1)) hx hb hr (fun t ht hW => ⟨⟨(-1), sq_u [] [], rfl, rfl, pq_B.of ht hP9 hD9⟩, hS.F ht⟩) hS.2.2 dX11_readU_29
def wq_X11_good_2_r1 : List Cond := [Cond.fieldLink RX11 319 "CodePressModel" "fault" "I"]
def wq_X11_good_2 : List Cond := Cond.code yX11_good cX11_good 1 (some .boolean) :: (wq_X11_good_2_r1 ++ wsX110)
theorem iq_X11_good_2_X11 : ∀ w ∈ wsX110, w ∈ wq_X11_good_2 := fun _ h => List.mem_cons_of_mem _ (List.mem_append_right _ h)
set_option maxHeartbeats 4000000 in
set_option maxRecDepth 100000 in
theorem cq_X11_good_2 (l : Launch) (dC : Nat → ClassId) (dI : Nat → Nat → Nat) (cB cI cJ cZ : ClassId) (h0 : Nat) (fa0 : Nat → Nat) (sz : Nat) : Met l yX11_good wq_X11_good_2 ({ frames := 0, cells := 0, slots := 0, locals := 0 }) (va_Pc [.ref h0] (pq_W (dC, dI) vwCl (tyQ cB cI cJ cZ) [(h0, .inr (11, mo31 fa0))] sz)) (va_Qi (fun (r : Int32) (_ : SQ) => r = 0) (fun u => pq_B (dC, dI) vwCl [(h0, .inr (11, mo31 fa0))] (va_A [(h0, .inr (11, mo31 fa0))] sz)) (va_A [(h0, .inr (11, mo31 fa0))] sz)) 0 0 (va_A [(h0, .inr (11, mo31 fa0))] sz) := by
  refine Met.ofW (cc := cX11_good) (maxL := 1) (ret := (some .boolean)) (by decide) rfl ?_
  intro p e s m args below meth c s₁ B hml hv
  obtain ⟨rfl, hsz, hP, hK, hD0⟩ := hv
  have hx := B.exec
  have hb := B.bytes
  have hr := B.returns
  have hts := atoms_spec (ws := wq_X11_good_2) B.pre
  have hown : s.vm.findClass RX11 = some m.cls := findClass_of_methodNamed B.named
  have hlocks := B.notSynchronized
  subst hsz
  have hD := hD0.self (sz := s.heap.size)
  generalize hAe : va_A [(h0, .inr (11, mo31 fa0))] s.heap.size = A at hD ⊢
  have hA : ∀ q : Nat, s.heap.size ≤ q → A q := fun q h => by rw [← hAe]; exact Or.inr h
  have hS : va_S A s.heap s.heap [] := va_S.rf
  have hP : va_P (dC, dI) vwCl [(h0, .inr (11, mo31 fa0))] s.heap := hP
  obtain ⟨H, hH⟩ : ∃ H, H = s.heap := ⟨_, rfl⟩
  rw [← hH] at hP
  have hS : va_S A s.heap H [] := by rw [hH]; exact hS
  have hl := lv_entry ([.ref h0]) (n := 1) (Nat.le_of_ble_eq_true rfl)
  rw [lg_entry_eq]
  generalize (lg_sl ([.ref h0]) ++ List.replicate (1 - (lg_sl ([.ref h0])).length) Slot.unset).toArray = ls at hl ⊢
  have hl : lv_has ls 1 [(0, .ref h0)] := hl
  refine pq_heap hH ?_
  refine lv_aload_n hx hb dX11_good_0 rfl (lv_at hl 0 rfl) ?_
  refine va_get (D := (dC, dI)) (ci := 11) (v := .int 1) (C := RX11) (T := TX11) (N := 122) hx hb hts iq_X11_good_2_X11 hown hK hP 0 rfl rfl 40 (by decide) (hts (Cond.fieldLink RX11 319 "CodePressModel" "fault" "I") (List.mem_of_getElem? (i := 1) rfl)) (fun _ h9 => h9) rfl dX11_good_1 ?_
  refine lv_if_ne (tgt := 11) hx hb dX11_good_4 (by decide) (fun _ => ?_) (fun c_ => absurd c_ (by decide))
  refine lv_iconst (v := 0) hx hb dX11_good_11 (by decide) ?_
  have hP9 := pq_P.pick (wc := [(h0, .inr (11, mo31 fa0))]) hP [0] rfl
  have hD9 := hD.sub (ws' := [(h0, .inr (11, mo31 fa0))]) [0] (by decide) rfl
  refine W.widen (k := 0) (n := 0) (by decide +kernel) (by decide +kernel) ?_
  exact W.zret (v := 0) hx hb hr rfl (fun t ht hW => ⟨⟨0, sq_u [] [], rfl, rfl, pq_B.of ht hP9 hD9⟩, hS.F ht⟩) hS.2.2 dX11_good_12
def wq_X11_beginsU_1_r1 : List Cond := [Cond.code yX11_good cX11_good 1 (some .boolean), Cond.fieldLink RX11 319 "CodePressModel" "fault" "I", Cond.methodLink RX11 332 yX11_good, Cond.instanceMethod yX11_good, Cond.selects RX11 yX11_good yX11_good, Cond.initialized RX11]
def wq_X11_beginsU_1 : List Cond := Cond.code yX11_beginsU cX11_beginsU 1 (some .boolean) :: (wq_X11_beginsU_1_r1 ++ wsX110)
theorem iq_X11_beginsU_1_X11 : ∀ w ∈ wsX110, w ∈ wq_X11_beginsU_1 := fun _ h => List.mem_cons_of_mem _ (List.mem_append_right _ h)
set_option maxRecDepth 20000 in
theorem gq_X11_beginsU_1_X11_good_2_332_0 : GoodIn wq_X11_beginsU_1 (Cond.code yX11_good cX11_good 1 (some .boolean) :: wq_X11_good_2_r1) := goodIn_r _ [1, 2] (by decide +kernel) (by decide +kernel)
set_option maxRecDepth 20000 in
theorem gq_X11_beginsU_1_X11_good_2_332 : GoodIn wq_X11_beginsU_1 (wsV RX11 332 RX11 yX11_good wq_X11_good_2) := goodIn_app (goodIn_r _ [3, 4, 5, 6] (by decide +kernel) (by decide +kernel)) (goodIn_ca gq_X11_beginsU_1_X11_good_2_332_0 (goodIn_sub iq_X11_beginsU_1_X11 guX11))
set_option maxHeartbeats 4000000 in
set_option maxRecDepth 100000 in
theorem cq_X11_beginsU_1 (l : Launch) (dC : Nat → ClassId) (dI : Nat → Nat → Nat) (cB cI cJ cZ : ClassId) (h0 : Nat) (fa0 : Nat → Nat) (sz : Nat) : Met l yX11_beginsU wq_X11_beginsU_1 ({ frames := 1, cells := 0, slots := 0, locals := 20 }) (va_Pc [.ref h0] (pq_W (dC, dI) vwCl (tyQ cB cI cJ cZ) [(h0, .inr (11, mo31 fa0))] sz)) (va_Qi (fun (r : Int32) (_ : SQ) => r = 0) (fun u => pq_B (dC, dI) vwCl [(h0, .inr (11, mo31 fa0))] (va_A [(h0, .inr (11, mo31 fa0))] sz)) (va_A [(h0, .inr (11, mo31 fa0))] sz)) 0 0 (va_A [(h0, .inr (11, mo31 fa0))] sz) := by
  refine Met.ofW (cc := cX11_beginsU) (maxL := 1) (ret := (some .boolean)) (by decide) rfl ?_
  intro p e s m args below meth c s₁ B hml hv
  obtain ⟨rfl, hsz, hP, hK, hD0⟩ := hv
  have hx := B.exec
  have hb := B.bytes
  have hr := B.returns
  have hts := atoms_spec (ws := wq_X11_beginsU_1) B.pre
  have hown : s.vm.findClass RX11 = some m.cls := findClass_of_methodNamed B.named
  have hlocks := B.notSynchronized
  subst hsz
  have hD := hD0.self (sz := s.heap.size)
  generalize hAe : va_A [(h0, .inr (11, mo31 fa0))] s.heap.size = A at hD ⊢
  have hA : ∀ q : Nat, s.heap.size ≤ q → A q := fun q h => by rw [← hAe]; exact Or.inr h
  have hS : va_S A s.heap s.heap [] := va_S.rf
  have hP : va_P (dC, dI) vwCl [(h0, .inr (11, mo31 fa0))] s.heap := hP
  obtain ⟨H, hH⟩ : ∃ H, H = s.heap := ⟨_, rfl⟩
  rw [← hH] at hP
  have hS : va_S A s.heap H [] := by rw [hH]; exact hS
  have hl := lv_entry ([.ref h0]) (n := 1) (Nat.le_of_ble_eq_true rfl)
  rw [lg_entry_eq]
  generalize (lg_sl ([.ref h0]) ++ List.replicate (1 - (lg_sl ([.ref h0])).length) Slot.unset).toArray = ls at hl ⊢
  have hl : lv_has ls 1 [(0, .ref h0)] := hl
  refine pq_heap hH ?_
  refine lv_aload_n hx hb dX11_beginsU_0 rfl (lv_at hl 0 rfl) ?_
  refine pq_ci (wr := []) (W1 := (fun u => [(h0, .inr (11, mo31 fa0))])) (va_runV (As := []) (rest := []) ⟨hx, hb, hml, hown, hts⟩ (cq_X11_good_2 l dC dI cB cI cJ cZ h0 fa0 H.size) (cwV 0 hts gq_X11_beginsU_1_X11_good_2_332 rfl rfl rfl (by decide +kernel) ⟨(by decide +kernel), (by decide +kernel)⟩) ⟨pq_blind, va_recv hK hP (ci := 11) (q0 := 0) rfl rfl, pq_pre hK hP hD [0] rfl rfl⟩ rfl rfl hl.1 rfl (lv_room (Nat.le_of_ble_eq_true rfl)) dX11_beginsU_1 ⟨(by decide +kernel), (by decide +kernel)⟩) hP hD hS hA [0] [] rfl rfl rfl (by decide) (fun r2 u1 H locs hw hP hD hS => ?_)
  subst hw
  have hR9 : pq_R (dC, dI) vwCl A [(h0, .inr (11, mo31 fa0))] H := ⟨hP, hD⟩
  have hP := hR9.1
  have hD := hR9.2
  refine W.widen (k := 0) (n := 0) (by decide +kernel) (by decide +kernel) ?_
  refine lv_if_ne (tgt := 9) hx hb dX11_beginsU_4 (by decide) (fun c_ => absurd (by decide) c_) (fun _ => ?_)
  refine lv_iconst (v := 0) hx hb dX11_beginsU_7 (by decide) ?_
  have hP9 := pq_P.pick (wc := [(h0, .inr (11, mo31 fa0))]) hP [0] rfl
  have hD9 := hD.sub (ws' := [(h0, .inr (11, mo31 fa0))]) [0] (by decide) rfl
  refine W.widen (k := 0) (n := 0) (by decide +kernel) (by decide +kernel) ?_
  exact W.zret (v := 0) hx hb hr rfl (fun t ht hW => ⟨⟨0, sq_u [] [], rfl, rfl, pq_B.of ht hP9 hD9⟩, hS.F ht⟩) hS.2.2 dX11_beginsU_8
def wq_X11_readA_r1 : List Cond := [Cond.code yX11_readU cX11_readU 5 (some .int), Cond.code yX11_good cX11_good 1 (some .boolean), Cond.fieldLink RX11 319 "CodePressModel" "fault" "I", Cond.methodLink RX11 332 yX11_good, Cond.instanceMethod yX11_good, Cond.selects RX11 yX11_good yX11_good, Cond.initialized RX11, Cond.fieldLink RX11 325 "CodePressModel" "t" "I", Cond.code yX11_beginsU cX11_beginsU 1 (some .boolean), Cond.fieldLink RX11 25 "CodePressModel" "sort" "[I", Cond.methodLink RX11 423 yX11_beginsU, Cond.instanceMethod yX11_beginsU, Cond.selects RX11 yX11_beginsU yX11_beginsU, Cond.code yX11_failsHere cX11_failsHere 2 none, Cond.fieldLink RX11 28 "CodePressModel" "at" "[I", Cond.code yX11_fails cX11_fails 3 none, Cond.fieldLink RX11 322 "CodePressModel" "place" "I", Cond.methodLink RX11 328 yX11_fails, Cond.instanceMethod yX11_fails, Cond.selects RX11 yX11_fails yX11_fails, Cond.methodLink RX11 336 yX11_failsHere, Cond.instanceMethod yX11_failsHere, Cond.selects RX11 yX11_failsHere yX11_failsHere, Cond.methodLink RX11 420 yX11_readU]
def wq_X11_readA_r2 : List Cond := [Cond.instanceMethod yX11_readU, Cond.selects RX11 yX11_readU yX11_readU, Cond.fieldLink RX11 385 "CodePressModel" "from" "I"]
def wq_X11_readA : List Cond := Cond.code yX11_readA cX11_readA 5 (some .int) :: ((wq_X11_readA_r1 ++ wq_X11_readA_r2) ++ wsX110)
theorem iq_X11_readA_X11 : ∀ w ∈ wsX110, w ∈ wq_X11_readA := fun _ h => List.mem_cons_of_mem _ (List.mem_append_right _ h)
set_option maxRecDepth 20000 in
theorem gq_X11_readA_X11_readU_420_0 : GoodIn wq_X11_readA (Cond.code yX11_readU cX11_readU 5 (some .int) :: wq_X11_readU_r1) := goodIn_r _ [1, 2, 3, 4, 5, 6, 7, 8, 9, 10, 11, 12, 13, 14, 15, 16, 17, 18, 19, 20, 21, 22, 23] (by decide +kernel) (by decide +kernel)
set_option maxRecDepth 20000 in
theorem gq_X11_readA_X11_readU_420 : GoodIn wq_X11_readA (wsV RX11 420 RX11 yX11_readU wq_X11_readU) := goodIn_app (goodIn_r _ [24, 25, 26, 7] (by decide +kernel) (by decide +kernel)) (goodIn_ca gq_X11_readA_X11_readU_420_0 (goodIn_sub iq_X11_readA_X11 guX11))
set_option maxRecDepth 20000 in
theorem gq_X11_readA_X11_beginsU_1_423_0 : GoodIn wq_X11_readA (Cond.code yX11_beginsU cX11_beginsU 1 (some .boolean) :: wq_X11_beginsU_1_r1) := goodIn_r _ [9, 2, 3, 4, 5, 6, 7] (by decide +kernel) (by decide +kernel)
set_option maxRecDepth 20000 in
theorem gq_X11_readA_X11_beginsU_1_423 : GoodIn wq_X11_readA (wsV RX11 423 RX11 yX11_beginsU wq_X11_beginsU_1) := goodIn_app (goodIn_r _ [11, 12, 13, 7] (by decide +kernel) (by decide +kernel)) (goodIn_ca gq_X11_readA_X11_beginsU_1_423_0 (goodIn_sub iq_X11_readA_X11 guX11))
set_option maxHeartbeats 4000000 in
set_option maxRecDepth 100000 in
theorem cq_X11_readA (l : Launch) (dC : Nat → ClassId) (dI : Nat → Nat → Nat) (cB cI cJ cZ : ClassId) (h0 : Nat) (fa0 : Nat → Nat) (sz : Nat) : Met l yX11_readA wq_X11_readA ({ frames := 3, cells := 0, slots := 0, locals := 67 }) (va_Pc [.ref h0] (pq_W (dC, dI) vwCl (tyQ cB cI cJ cZ) [(h0, .inr (11, mo30 fa0)), ((fa0 2), .inl (cI, 3002, .inl (upd (fun _ => 0) 0 0))), ((fa0 3), .inl (cI, 3002, .inl (upd (fun _ => 0) 0 0)))] sz)) (va_Qi (fun (r : Int32) (_ : SQ) => r = (-1)) (fun u => pq_B (dC, dI) vwCl [((fa0 2), .inl (cI, 3002, .inl (upd (fun _ => 0) 0 0))), ((fa0 3), .inl (cI, 3002, .inl (upd (fun _ => 0) 0 0))), (h0, .inr (11, mo31 fa0))] (va_A [(h0, .inr (11, mo30 fa0)), ((fa0 2), .inl (cI, 3002, .inl (upd (fun _ => 0) 0 0))), ((fa0 3), .inl (cI, 3002, .inl (upd (fun _ => 0) 0 0)))] sz)) (va_A [(h0, .inr (11, mo30 fa0)), ((fa0 2), .inl (cI, 3002, .inl (upd (fun _ => 0) 0 0))), ((fa0 3), .inl (cI, 3002, .inl (upd (fun _ => 0) 0 0)))] sz)) 0 0 (va_A [(h0, .inr (11, mo30 fa0)), ((fa0 2), .inl (cI, 3002, .inl (upd (fun _ => 0) 0 0))), ((fa0 3), .inl (cI, 3002, .inl (upd (fun _ => 0) 0 0)))] sz) := by
  refine Met.ofW (cc := cX11_readA) (maxL := 5) (ret := (some .int)) (by decide) rfl ?_
  intro p e s m args below meth c s₁ B hml hv
  obtain ⟨rfl, hsz, hP, hK, hD0⟩ := hv
  have hx := B.exec
  have hb := B.bytes
  have hr := B.returns
  have hts := atoms_spec (ws := wq_X11_readA) B.pre
  have hown : s.vm.findClass RX11 = some m.cls := findClass_of_methodNamed B.named
  have hlocks := B.notSynchronized
  subst hsz
  have hD := hD0.self (sz := s.heap.size)
  generalize hAe : va_A [(h0, .inr (11, mo30 fa0)), ((fa0 2), .inl (cI, 3002, .inl (upd (fun _ => 0) 0 0))), ((fa0 3), .inl (cI, 3002, .inl (upd (fun _ => 0) 0 0)))] s.heap.size = A at hD ⊢
  have hA : ∀ q : Nat, s.heap.size ≤ q → A q := fun q h => by rw [← hAe]; exact Or.inr h
  have hS : va_S A s.heap s.heap [] := va_S.rf
  have hP : va_P (dC, dI) vwCl [(h0, .inr (11, mo30 fa0)), ((fa0 2), .inl (cI, 3002, .inl (upd (fun _ => 0) 0 0))), ((fa0 3), .inl (cI, 3002, .inl (upd (fun _ => 0) 0 0)))] s.heap := hP
  obtain ⟨H, hH⟩ : ∃ H, H = s.heap := ⟨_, rfl⟩
  rw [← hH] at hP
  have hS : va_S A s.heap H [] := by rw [hH]; exact hS
  have hl := lv_entry ([.ref h0]) (n := 5) (Nat.le_of_ble_eq_true rfl)
  rw [lg_entry_eq]
  generalize (lg_sl ([.ref h0]) ++ List.replicate (5 - (lg_sl ([.ref h0])).length) Slot.unset).toArray = ls at hl ⊢
  have hl : lv_has ls 5 [(0, .ref h0)] := hl
  refine pq_heap hH ?_
  refine lv_aload_n hx hb dX11_readA_0 rfl (lv_at hl 0 rfl) ?_
  refine pq_ci (wr := []) (W1 := (fun u => [((fa0 2), .inl (cI, 3002, .inl (upd (fun _ => 0) 0 0))), ((fa0 3), .inl (cI, 3002, .inl (upd (fun _ => 0) 0 0))), (h0, .inr (11, mo31 fa0))])) (va_runV (As := []) (rest := []) ⟨hx, hb, hml, hown, hts⟩ (cq_X11_readU l dC dI cB cI cJ cZ h0 fa0 H.size) (cwV 0 hts gq_X11_readA_X11_readU_420 rfl rfl rfl (by decide +kernel) ⟨(by decide +kernel), (by decide +kernel)⟩) ⟨pq_blind, va_recv hK hP (ci := 11) (q0 := 0) rfl rfl, pq_pre hK hP hD [0, 1, 2] rfl rfl⟩ rfl rfl hl.1 rfl (lv_room (Nat.le_of_ble_eq_true rfl)) dX11_readA_1 ⟨(by decide +kernel), (by decide +kernel)⟩) hP hD hS hA [0, 1, 2] [] rfl rfl rfl (by decide) (fun r2 u1 H locs hw hP hD hS => ?_)
  subst hw
  have hR9 : pq_R (dC, dI) vwCl A [((fa0 2), .inl (cI, 3002, .inl (upd (fun _ => 0) 0 0))), ((fa0 3), .inl (cI, 3002, .inl (upd (fun _ => 0) 0 0))), (h0, .inr (11, mo31 fa0))] H := ⟨hP, hD⟩
  have hP := hR9.1
  have hD := hR9.2
  refine W.widen (k := 0) (n := 0) (by decide +kernel) (by decide +kernel) ?_
  refine lv_istore_n (lv' := [(1, .int (-1)), (0, .ref h0)]) hx hb dX11_readA_4 rfl hl (by decide) rfl (fun ls hl => ?_)
  refine lv_aload_n hx hb dX11_readA_5 rfl (lv_at hl 1 rfl) ?_
  refine va_get (D := (dC, dI)) (ci := 11) (v := .int 0) (C := RX11) (T := TX11) (N := 122) hx hb hts iq_X11_readA_X11 hown hK hP 2 rfl rfl 45 (by decide) (hts (Cond.fieldLink RX11 385 "CodePressModel" "from" "I") (List.mem_of_getElem? (i := 27) rfl)) (fun _ h9 => h9) rfl dX11_readA_6 ?_
  refine lv_istore_n (lv' := [(2, .int 0), (1, .int (-1)), (0, .ref h0)]) hx hb dX11_readA_9 rfl hl (by decide) rfl (fun ls hl => ?_)
  refine lv_aload_n hx hb dX11_readA_10 rfl (lv_at hl 2 rfl) ?_
  refine pq_ci (wr := [((fa0 2), .inl (cI, 3002, .inl (upd (fun _ => 0) 0 0))), ((fa0 3), .inl (cI, 3002, .inl (upd (fun _ => 0) 0 0)))]) (W1 := (fun u => [(h0, .inr (11, mo31 fa0))])) (va_runV (As := []) (rest := []) ⟨hx, hb, hml, hown, hts⟩ (cq_X11_beginsU_1 l dC dI cB cI cJ cZ h0 fa0 H.size) (cwV 0 hts gq_X11_readA_X11_beginsU_1_423 rfl rfl rfl (by decide +kernel) ⟨(by decide +kernel), (by decide +kernel)⟩) ⟨pq_blind, va_recv hK hP (ci := 11) (q0 := 2) rfl rfl, pq_pre hK hP hD [2] rfl rfl⟩ rfl rfl hl.1 rfl (lv_room (Nat.le_of_ble_eq_true rfl)) dX11_readA_11 ⟨(by decide +kernel), (by decide +kernel)⟩) hP hD hS hA [2] [0, 1] rfl rfl rfl (by decide) (fun r4 u3 H locs hw hP hD hS => ?_)
  subst hw
  have hR9 : pq_R (dC, dI) vwCl A [((fa0 2), .inl (cI, 3002, .inl (upd (fun _ => 0) 0 0))), ((fa0 3), .inl (cI, 3002, .inl (upd (fun _ => 0) 0 0))), (h0, .inr (11, mo31 fa0))] H := ⟨hP, hD⟩
  have hP := hR9.1
  have hD := hR9.2
  refine W.widen (k := 0) (n := 0) (by decide +kernel) (by decide +kernel) ?_
  refine lv_if_eq (tgt := 55) hx hb dX11_readA_14 (by decide) (fun _ => ?_) (fun c_ => absurd (by decide) c_)
  refine lv_aload_n hx hb dX11_readA_55 rfl (lv_at hl 2 rfl) ?_
  refine lv_iload_n hx hb dX11_readA_56 rfl (lv_at hl 0 rfl) ?_
  refine va_put (D := (dC, dI)) (ci := 11) (v := .int 0) (ty := .int) (C := RX11) (T := TX11) (N := 122) hx hb hts iq_X11_readA_X11 tyX11 tyX11_ok nmX11 hown hK hP hD hS 2 rfl rfl 45 (by decide) (hts (Cond.fieldLink RX11 385 "CodePressModel" "from" "I") (List.mem_of_getElem? (i := 27) rfl)) (fun _ h9 => h9) rfl (by decide +kernel) rfl rfl (Nat.le_of_ble_eq_true rfl) dX11_readA_57 (fun H locs hP hD hS => ?_)
  have hR9 : pq_R (dC, dI) vwCl A [((fa0 2), .inl (cI, 3002, .inl (upd (fun _ => 0) 0 0))), ((fa0 3), .inl (cI, 3002, .inl (upd (fun _ => 0) 0 0))), (h0, .inr (11, mo31 fa0))] H := ⟨hP, hD⟩
  have hP := hR9.1
  have hD := hR9.2
  refine lv_iload_n hx hb dX11_readA_60 rfl (lv_at hl 1 rfl) ?_
  have hP9 := pq_P.pick (wc := [((fa0 2), .inl (cI, 3002, .inl (upd (fun _ => 0) 0 0))), ((fa0 3), .inl (cI, 3002, .inl (upd (fun _ => 0) 0 0))), (h0, .inr (11, mo31 fa0))]) hP [0, 1, 2] rfl
  have hD9 := hD.sub (ws' := [((fa0 2), .inl (cI, 3002, .inl (upd (fun _ => 0) 0 0))), ((fa0 3), .inl (cI, 3002, .inl (upd (fun _ => 0) 0 0))), (h0, .inr (11, mo31 fa0))]) [0, 1, 2] (by decide) rfl
  refine W.widen (k := 0) (n := 0) (by decide +kernel) (by decide +kernel) ?_
  exact W.iret (v := (-1)) hx hb hr (fun t ht hW => ⟨⟨(-1), sq_u [] [], rfl, rfl, pq_B.of ht hP9 hD9⟩, hS.F ht⟩) hS.2.2 dX11_readA_61
def wq_X11_isSign_r1 : List Cond := [Cond.code yX11_good cX11_good 1 (some .boolean), Cond.fieldLink RX11 319 "CodePressModel" "fault" "I", Cond.methodLink RX11 332 yX11_good, Cond.instanceMethod yX11_good, Cond.selects RX11 yX11_good yX11_good, Cond.initialized RX11]
def wq_X11_isSign : List Cond := Cond.code yX11_isSign cX11_isSign 2 (some .boolean) :: (wq_X11_isSign_r1 ++ wsX110)
theorem iq_X11_isSign_X11 : ∀ w ∈ wsX110, w ∈ wq_X11_isSign := fun _ h => List.mem_cons_of_mem _ (List.mem_append_right _ h)
set_option maxRecDepth 20000 in
theorem gq_X11_isSign_X11_good_2_332_0 : GoodIn wq_X11_isSign (Cond.code yX11_good cX11_good 1 (some .boolean) :: wq_X11_good_2_r1) := goodIn_r _ [1, 2] (by decide +kernel) (by decide +kernel)
set_option maxRecDepth 20000 in
theorem gq_X11_isSign_X11_good_2_332 : GoodIn wq_X11_isSign (wsV RX11 332 RX11 yX11_good wq_X11_good_2) := goodIn_app (goodIn_r _ [3, 4, 5, 6] (by decide +kernel) (by decide +kernel)) (goodIn_ca gq_X11_isSign_X11_good_2_332_0 (goodIn_sub iq_X11_isSign_X11 guX11))
set_option maxHeartbeats 4000000 in
set_option maxRecDepth 100000 in
theorem cq_X11_isSign (l : Launch) (dC : Nat → ClassId) (dI : Nat → Nat → Nat) (cB cI cJ cZ : ClassId) (h0 : Nat) (fa0 : Nat → Nat) (sz : Nat) : Met l yX11_isSign wq_X11_isSign ({ frames := 1, cells := 0, slots := 0, locals := 20 }) (va_Pc [.ref h0, .int 42] (pq_W (dC, dI) vwCl (tyQ cB cI cJ cZ) [(h0, .inr (11, mo31 fa0))] sz)) (va_Qi (fun (r : Int32) (_ : SQ) => r = 0) (fun u => pq_B (dC, dI) vwCl [(h0, .inr (11, mo31 fa0))] (va_A [(h0, .inr (11, mo31 fa0))] sz)) (va_A [(h0, .inr (11, mo31 fa0))] sz)) 0 0 (va_A [(h0, .inr (11, mo31 fa0))] sz) := by
  refine Met.ofW (cc := cX11_isSign) (maxL := 2) (ret := (some .boolean)) (by decide) rfl ?_
  intro p e s m args below meth c s₁ B hml hv
  obtain ⟨rfl, hsz, hP, hK, hD0⟩ := hv
  have hx := B.exec
  have hb := B.bytes
  have hr := B.returns
  have hts := atoms_spec (ws := wq_X11_isSign) B.pre
  have hown : s.vm.findClass RX11 = some m.cls := findClass_of_methodNamed B.named
  have hlocks := B.notSynchronized
  subst hsz
  have hD := hD0.self (sz := s.heap.size)
  generalize hAe : va_A [(h0, .inr (11, mo31 fa0))] s.heap.size = A at hD ⊢
  have hA : ∀ q : Nat, s.heap.size ≤ q → A q := fun q h => by rw [← hAe]; exact Or.inr h
  have hS : va_S A s.heap s.heap [] := va_S.rf
  have hP : va_P (dC, dI) vwCl [(h0, .inr (11, mo31 fa0))] s.heap := hP
  obtain ⟨H, hH⟩ : ∃ H, H = s.heap := ⟨_, rfl⟩
  rw [← hH] at hP
  have hS : va_S A s.heap H [] := by rw [hH]; exact hS
  have hl := lv_entry ([.ref h0, .int 42]) (n := 2) (Nat.le_of_ble_eq_true rfl)
  rw [lg_entry_eq]
  generalize (lg_sl ([.ref h0, .int 42]) ++ List.replicate (2 - (lg_sl ([.ref h0, .int 42])).length) Slot.unset).toArray = ls at hl ⊢
  have hl : lv_has ls 2 [(0, .ref h0), (1, .int 42)] := hl
  refine pq_heap hH ?_
  refine lv_aload_n hx hb dX11_isSign_0 rfl (lv_at hl 0 rfl) ?_
  refine pq_ci (wr := []) (W1 := (fun u => [(h0, .inr (11, mo31 fa0))])) (va_runV (As := []) (rest := []) ⟨hx, hb, hml, hown, hts⟩ (cq_X11_good_2 l dC dI cB cI cJ cZ h0 fa0 H.size) (cwV 0 hts gq_X11_isSign_X11_good_2_332 rfl rfl rfl (by decide +kernel) ⟨(by decide +kernel), (by decide +kernel)⟩) ⟨pq_blind, va_recv hK hP (ci := 11) (q0 := 0) rfl rfl, pq_pre hK hP hD [0] rfl rfl⟩ rfl rfl hl.1 rfl (lv_room (Nat.le_of_ble_eq_true rfl)) dX11_isSign_1 ⟨(by decide +kernel), (by decide +kernel)⟩) hP hD hS hA [0] [] rfl rfl rfl (by decide) (fun r2 u1 H locs hw hP hD hS => ?_)
  subst hw
  have hR9 : pq_R (dC, dI) vwCl A [(h0, .inr (11, mo31 fa0))] H := ⟨hP, hD⟩
  have hP := hR9.1
  have hD := hR9.2
  refine W.widen (k := 0) (n := 0) (by decide +kernel) (by decide +kernel) ?_
  refine lv_if_eq (tgt := 37) hx hb dX11_isSign_4 (by decide) (fun _ => ?_) (fun c_ => absurd (by decide) c_)
  refine lv_iconst (v := 0) hx hb dX11_isSign_37 (by decide) ?_
  have hP9 := pq_P.pick (wc := [(h0, .inr (11, mo31 fa0))]) hP [0] rfl
  have hD9 := hD.sub (ws' := [(h0, .inr (11, mo31 fa0))]) [0] (by decide) rfl
  refine W.widen (k := 0) (n := 0) (by decide +kernel) (by decide +kernel) ?_
  exact W.zret (v := 0) hx hb hr rfl (fun t ht hW => ⟨⟨0, sq_u [] [], rfl, rfl, pq_B.of ht hP9 hD9⟩, hS.F ht⟩) hS.2.2 dX11_isSign_38
def wq_X11_isSign_1_r1 : List Cond := [Cond.code yX11_good cX11_good 1 (some .boolean), Cond.fieldLink RX11 319 "CodePressModel" "fault" "I", Cond.methodLink RX11 332 yX11_good, Cond.instanceMethod yX11_good, Cond.selects RX11 yX11_good yX11_good, Cond.initialized RX11]
def wq_X11_isSign_1 : List Cond := Cond.code yX11_isSign cX11_isSign 2 (some .boolean) :: (wq_X11_isSign_1_r1 ++ wsX110)
theorem iq_X11_isSign_1_X11 : ∀ w ∈ wsX110, w ∈ wq_X11_isSign_1 := fun _ h => List.mem_cons_of_mem _ (List.mem_append_right _ h)
set_option maxRecDepth 20000 in
theorem gq_X11_isSign_1_X11_good_2_332_0 : GoodIn wq_X11_isSign_1 (Cond.code yX11_good cX11_good 1 (some .boolean) :: wq_X11_good_2_r1) := goodIn_r _ [1, 2] (by decide +kernel) (by decide +kernel)
set_option maxRecDepth 20000 in
theorem gq_X11_isSign_1_X11_good_2_332 : GoodIn wq_X11_isSign_1 (wsV RX11 332 RX11 yX11_good wq_X11_good_2) := goodIn_app (goodIn_r _ [3, 4, 5, 6] (by decide +kernel) (by decide +kernel)) (goodIn_ca gq_X11_isSign_1_X11_good_2_332_0 (goodIn_sub iq_X11_isSign_1_X11 guX11))
set_option maxHeartbeats 4000000 in
set_option maxRecDepth 100000 in
theorem cq_X11_isSign_1 (l : Launch) (dC : Nat → ClassId) (dI : Nat → Nat → Nat) (cB cI cJ cZ : ClassId) (h0 : Nat) (fa0 : Nat → Nat) (sz : Nat) : Met l yX11_isSign wq_X11_isSign_1 ({ frames := 1, cells := 0, slots := 0, locals := 20 }) (va_Pc [.ref h0, .int 47] (pq_W (dC, dI) vwCl (tyQ cB cI cJ cZ) [(h0, .inr (11, mo31 fa0))] sz)) (va_Qi (fun (r : Int32) (_ : SQ) => r = 0) (fun u => pq_B (dC, dI) vwCl [(h0, .inr (11, mo31 fa0))] (va_A [(h0, .inr (11, mo31 fa0))] sz)) (va_A [(h0, .inr (11, mo31 fa0))] sz)) 0 0 (va_A [(h0, .inr (11, mo31 fa0))] sz) := by
  refine Met.ofW (cc := cX11_isSign) (maxL := 2) (ret := (some .boolean)) (by decide) rfl ?_
  intro p e s m args below meth c s₁ B hml hv
  obtain ⟨rfl, hsz, hP, hK, hD0⟩ := hv
  have hx := B.exec
  have hb := B.bytes
  have hr := B.returns
  have hts := atoms_spec (ws := wq_X11_isSign_1) B.pre
  have hown : s.vm.findClass RX11 = some m.cls := findClass_of_methodNamed B.named
  have hlocks := B.notSynchronized
  subst hsz
  have hD := hD0.self (sz := s.heap.size)
  generalize hAe : va_A [(h0, .inr (11, mo31 fa0))] s.heap.size = A at hD ⊢
  have hA : ∀ q : Nat, s.heap.size ≤ q → A q := fun q h => by rw [← hAe]; exact Or.inr h
  have hS : va_S A s.heap s.heap [] := va_S.rf
  have hP : va_P (dC, dI) vwCl [(h0, .inr (11, mo31 fa0))] s.heap := hP
  obtain ⟨H, hH⟩ : ∃ H, H = s.heap := ⟨_, rfl⟩
  rw [← hH] at hP
  have hS : va_S A s.heap H [] := by rw [hH]; exact hS
  have hl := lv_entry ([.ref h0, .int 47]) (n := 2) (Nat.le_of_ble_eq_true rfl)
  rw [lg_entry_eq]
  generalize (lg_sl ([.ref h0, .int 47]) ++ List.replicate (2 - (lg_sl ([.ref h0, .int 47])).length) Slot.unset).toArray = ls at hl ⊢
  have hl : lv_has ls 2 [(0, .ref h0), (1, .int 47)] := hl
  refine pq_heap hH ?_
  refine lv_aload_n hx hb dX11_isSign_0 rfl (lv_at hl 0 rfl) ?_
  refine pq_ci (wr := []) (W1 := (fun u => [(h0, .inr (11, mo31 fa0))])) (va_runV (As := []) (rest := []) ⟨hx, hb, hml, hown, hts⟩ (cq_X11_good_2 l dC dI cB cI cJ cZ h0 fa0 H.size) (cwV 0 hts gq_X11_isSign_1_X11_good_2_332 rfl rfl rfl (by decide +kernel) ⟨(by decide +kernel), (by decide +kernel)⟩) ⟨pq_blind, va_recv hK hP (ci := 11) (q0 := 0) rfl rfl, pq_pre hK hP hD [0] rfl rfl⟩ rfl rfl hl.1 rfl (lv_room (Nat.le_of_ble_eq_true rfl)) dX11_isSign_1 ⟨(by decide +kernel), (by decide +kernel)⟩) hP hD hS hA [0] [] rfl rfl rfl (by decide) (fun r2 u1 H locs hw hP hD hS => ?_)
  subst hw
  have hR9 : pq_R (dC, dI) vwCl A [(h0, .inr (11, mo31 fa0))] H := ⟨hP, hD⟩
  have hP := hR9.1
  have hD := hR9.2
  refine W.widen (k := 0) (n := 0) (by decide +kernel) (by decide +kernel) ?_
  refine lv_if_eq (tgt := 37) hx hb dX11_isSign_4 (by decide) (fun _ => ?_) (fun c_ => absurd (by decide) c_)
  refine lv_iconst (v := 0) hx hb dX11_isSign_37 (by decide) ?_
  have hP9 := pq_P.pick (wc := [(h0, .inr (11, mo31 fa0))]) hP [0] rfl
  have hD9 := hD.sub (ws' := [(h0, .inr (11, mo31 fa0))]) [0] (by decide) rfl
  refine W.widen (k := 0) (n := 0) (by decide +kernel) (by decide +kernel) ?_
  exact W.zret (v := 0) hx hb hr rfl (fun t ht hW => ⟨⟨0, sq_u [] [], rfl, rfl, pq_B.of ht hP9 hD9⟩, hS.F ht⟩) hS.2.2 dX11_isSign_38
def wq_X11_isSign_2_r1 : List Cond := [Cond.code yX11_good cX11_good 1 (some .boolean), Cond.fieldLink RX11 319 "CodePressModel" "fault" "I", Cond.methodLink RX11 332 yX11_good, Cond.instanceMethod yX11_good, Cond.selects RX11 yX11_good yX11_good, Cond.initialized RX11]
def wq_X11_isSign_2 : List Cond := Cond.code yX11_isSign cX11_isSign 2 (some .boolean) :: (wq_X11_isSign_2_r1 ++ wsX110)
theorem iq_X11_isSign_2_X11 : ∀ w ∈ wsX110, w ∈ wq_X11_isSign_2 := fun _ h => List.mem_cons_of_mem _ (List.mem_append_right _ h)
set_option maxRecDepth 20000 in
theorem gq_X11_isSign_2_X11_good_2_332_0 : GoodIn wq_X11_isSign_2 (Cond.code yX11_good cX11_good 1 (some .boolean) :: wq_X11_good_2_r1) := goodIn_r _ [1, 2] (by decide +kernel) (by decide +kernel)
set_option maxRecDepth 20000 in
theorem gq_X11_isSign_2_X11_good_2_332 : GoodIn wq_X11_isSign_2 (wsV RX11 332 RX11 yX11_good wq_X11_good_2) := goodIn_app (goodIn_r _ [3, 4, 5, 6] (by decide +kernel) (by decide +kernel)) (goodIn_ca gq_X11_isSign_2_X11_good_2_332_0 (goodIn_sub iq_X11_isSign_2_X11 guX11))
set_option maxHeartbeats 4000000 in
set_option maxRecDepth 100000 in
theorem cq_X11_isSign_2 (l : Launch) (dC : Nat → ClassId) (dI : Nat → Nat → Nat) (cB cI cJ cZ : ClassId) (h0 : Nat) (fa0 : Nat → Nat) (sz : Nat) : Met l yX11_isSign wq_X11_isSign_2 ({ frames := 1, cells := 0, slots := 0, locals := 20 }) (va_Pc [.ref h0, .int 37] (pq_W (dC, dI) vwCl (tyQ cB cI cJ cZ) [(h0, .inr (11, mo31 fa0))] sz)) (va_Qi (fun (r : Int32) (_ : SQ) => r = 0) (fun u => pq_B (dC, dI) vwCl [(h0, .inr (11, mo31 fa0))] (va_A [(h0, .inr (11, mo31 fa0))] sz)) (va_A [(h0, .inr (11, mo31 fa0))] sz)) 0 0 (va_A [(h0, .inr (11, mo31 fa0))] sz) := by
  refine Met.ofW (cc := cX11_isSign) (maxL := 2) (ret := (some .boolean)) (by decide) rfl ?_
  intro p e s m args below meth c s₁ B hml hv
  obtain ⟨rfl, hsz, hP, hK, hD0⟩ := hv
  have hx := B.exec
  have hb := B.bytes
  have hr := B.returns
  have hts := atoms_spec (ws := wq_X11_isSign_2) B.pre
  have hown : s.vm.findClass RX11 = some m.cls := findClass_of_methodNamed B.named
  have hlocks := B.notSynchronized
  subst hsz
  have hD := hD0.self (sz := s.heap.size)
  generalize hAe : va_A [(h0, .inr (11, mo31 fa0))] s.heap.size = A at hD ⊢
  have hA : ∀ q : Nat, s.heap.size ≤ q → A q := fun q h => by rw [← hAe]; exact Or.inr h
  have hS : va_S A s.heap s.heap [] := va_S.rf
  have hP : va_P (dC, dI) vwCl [(h0, .inr (11, mo31 fa0))] s.heap := hP
  obtain ⟨H, hH⟩ : ∃ H, H = s.heap := ⟨_, rfl⟩
  rw [← hH] at hP
  have hS : va_S A s.heap H [] := by rw [hH]; exact hS
  have hl := lv_entry ([.ref h0, .int 37]) (n := 2) (Nat.le_of_ble_eq_true rfl)
  rw [lg_entry_eq]
  generalize (lg_sl ([.ref h0, .int 37]) ++ List.replicate (2 - (lg_sl ([.ref h0, .int 37])).length) Slot.unset).toArray = ls at hl ⊢
  have hl : lv_has ls 2 [(0, .ref h0), (1, .int 37)] := hl
  refine pq_heap hH ?_
  refine lv_aload_n hx hb dX11_isSign_0 rfl (lv_at hl 0 rfl) ?_
  refine pq_ci (wr := []) (W1 := (fun u => [(h0, .inr (11, mo31 fa0))])) (va_runV (As := []) (rest := []) ⟨hx, hb, hml, hown, hts⟩ (cq_X11_good_2 l dC dI cB cI cJ cZ h0 fa0 H.size) (cwV 0 hts gq_X11_isSign_2_X11_good_2_332 rfl rfl rfl (by decide +kernel) ⟨(by decide +kernel), (by decide +kernel)⟩) ⟨pq_blind, va_recv hK hP (ci := 11) (q0 := 0) rfl rfl, pq_pre hK hP hD [0] rfl rfl⟩ rfl rfl hl.1 rfl (lv_room (Nat.le_of_ble_eq_true rfl)) dX11_isSign_1 ⟨(by decide +kernel), (by decide +kernel)⟩) hP hD hS hA [0] [] rfl rfl rfl (by decide) (fun r2 u1 H locs hw hP hD hS => ?_)
  subst hw
  have hR9 : pq_R (dC, dI) vwCl A [(h0, .inr (11, mo31 fa0))] H := ⟨hP, hD⟩
  have hP := hR9.1
  have hD := hR9.2
  refine W.widen (k := 0) (n := 0) (by decide +kernel) (by decide +kernel) ?_
  refine lv_if_eq (tgt := 37) hx hb dX11_isSign_4 (by decide) (fun _ => ?_) (fun c_ => absurd (by decide) c_)
  refine lv_iconst (v := 0) hx hb dX11_isSign_37 (by decide) ?_
  have hP9 := pq_P.pick (wc := [(h0, .inr (11, mo31 fa0))]) hP [0] rfl
  have hD9 := hD.sub (ws' := [(h0, .inr (11, mo31 fa0))]) [0] (by decide) rfl
  refine W.widen (k := 0) (n := 0) (by decide +kernel) (by decide +kernel) ?_
  exact W.zret (v := 0) hx hb hr rfl (fun t ht hW => ⟨⟨0, sq_u [] [], rfl, rfl, pq_B.of ht hP9 hD9⟩, hS.F ht⟩) hS.2.2 dX11_isSign_38
def wq_X11_readP_r1 : List Cond := [Cond.code yX11_readA cX11_readA 5 (some .int), Cond.code yX11_readU cX11_readU 5 (some .int), Cond.code yX11_good cX11_good 1 (some .boolean), Cond.fieldLink RX11 319 "CodePressModel" "fault" "I", Cond.methodLink RX11 332 yX11_good, Cond.instanceMethod yX11_good, Cond.selects RX11 yX11_good yX11_good, Cond.initialized RX11, Cond.fieldLink RX11 325 "CodePressModel" "t" "I", Cond.code yX11_beginsU cX11_beginsU 1 (some .boolean), Cond.fieldLink RX11 25 "CodePressModel" "sort" "[I", Cond.methodLink RX11 423 yX11_beginsU, Cond.instanceMethod yX11_beginsU, Cond.selects RX11 yX11_beginsU yX11_beginsU, Cond.code yX11_failsHere cX11_failsHere 2 none, Cond.fieldLink RX11 28 "CodePressModel" "at" "[I", Cond.code yX11_fails cX11_fails 3 none, Cond.fieldLink RX11 322 "CodePressModel" "place" "I", Cond.methodLink RX11 328 yX11_fails, Cond.instanceMethod yX11_fails, Cond.selects RX11 yX11_fails yX11_fails, Cond.methodLink RX11 336 yX11_failsHere, Cond.instanceMethod yX11_failsHere, Cond.selects RX11 yX11_failsHere yX11_failsHere]
def wq_X11_readP_r2 : List Cond := [Cond.methodLink RX11 420 yX11_readU, Cond.instanceMethod yX11_readU, Cond.selects RX11 yX11_readU yX11_readU, Cond.fieldLink RX11 385 "CodePressModel" "from" "I", Cond.methodLink RX11 417 yX11_readA, Cond.instanceMethod yX11_readA, Cond.selects RX11 yX11_readA yX11_readA, Cond.code yX11_isSign cX11_isSign 2 (some .boolean), Cond.methodLink RX11 348 yX11_isSign, Cond.instanceMethod yX11_isSign, Cond.selects RX11 yX11_isSign yX11_isSign]
def wq_X11_readP : List Cond := Cond.code yX11_readP cX11_readP 6 (some .int) :: ((wq_X11_readP_r1 ++ wq_X11_readP_r2) ++ wsX110)
theorem iq_X11_readP_X11 : ∀ w ∈ wsX110, w ∈ wq_X11_readP := fun _ h => List.mem_cons_of_mem _ (List.mem_append_right _ h)
set_option maxRecDepth 20000 in
theorem gq_X11_readP_X11_readA_417_0 : GoodIn wq_X11_readP (Cond.code yX11_readA cX11_readA 5 (some .int) :: (wq_X11_readA_r1 ++ wq_X11_readA_r2)) := goodIn_r _ [1, 2, 3, 4, 5, 6, 7, 8, 9, 10, 11, 12, 13, 14, 15, 16, 17, 18, 19, 20, 21, 22, 23, 24, 25, 26, 27, 28] (by decide +kernel) (by decide +kernel)
set_option maxRecDepth 20000 in
theorem gq_X11_readP_X11_readA_417 : GoodIn wq_X11_readP (wsV RX11 417 RX11 yX11_readA wq_X11_readA) := goodIn_app (goodIn_r _ [29, 30, 31, 8] (by decide +kernel) (by decide +kernel)) (goodIn_ca gq_X11_readP_X11_readA_417_0 (goodIn_sub iq_X11_readP_X11 guX11))
set_option maxRecDepth 20000 in
theorem gq_X11_readP_X11_isSign_348_0 : GoodIn wq_X11_readP (Cond.code yX11_isSign cX11_isSign 2 (some .boolean) :: wq_X11_isSign_r1) := goodIn_r _ [32, 3, 4, 5, 6, 7, 8] (by decide +kernel) (by decide +kernel)
set_option maxRecDepth 20000 in
theorem gq_X11_readP_X11_isSign_348 : GoodIn wq_X11_readP (wsV RX11 348 RX11 yX11_isSign wq_X11_isSign) := goodIn_app (goodIn_r _ [33, 34, 35, 8] (by decide +kernel) (by decide +kernel)) (goodIn_ca gq_X11_readP_X11_isSign_348_0 (goodIn_sub iq_X11_readP_X11 guX11))
set_option maxRecDepth 20000 in
theorem gq_X11_readP_X11_isSign_1_348_0 : GoodIn wq_X11_readP (Cond.code yX11_isSign cX11_isSign 2 (some .boolean) :: wq_X11_isSign_1_r1) := goodIn_r _ [32, 3, 4, 5, 6, 7, 8] (by decide +kernel) (by decide +kernel)
set_option maxRecDepth 20000 in
theorem gq_X11_readP_X11_isSign_1_348 : GoodIn wq_X11_readP (wsV RX11 348 RX11 yX11_isSign wq_X11_isSign_1) := goodIn_app (goodIn_r _ [33, 34, 35, 8] (by decide +kernel) (by decide +kernel)) (goodIn_ca gq_X11_readP_X11_isSign_1_348_0 (goodIn_sub iq_X11_readP_X11 guX11))
set_option maxRecDepth 20000 in
theorem gq_X11_readP_X11_isSign_2_348_0 : GoodIn wq_X11_readP (Cond.code yX11_isSign cX11_isSign 2 (some .boolean) :: wq_X11_isSign_2_r1) := goodIn_r _ [32, 3, 4, 5, 6, 7, 8] (by decide +kernel) (by decide +kernel)
set_option maxRecDepth 20000 in
theorem gq_X11_readP_X11_isSign_2_348 : GoodIn wq_X11_readP (wsV RX11 348 RX11 yX11_isSign wq_X11_isSign_2) := goodIn_app (goodIn_r _ [33, 34, 35, 8] (by decide +kernel) (by decide +kernel)) (goodIn_ca gq_X11_readP_X11_isSign_2_348_0 (goodIn_sub iq_X11_readP_X11 guX11))
set_option maxHeartbeats 4000000 in
set_option maxRecDepth 100000 in
theorem cq_X11_readP (l : Launch) (dC : Nat → ClassId) (dI : Nat → Nat → Nat) (cB cI cJ cZ : ClassId) (h0 : Nat) (fa0 : Nat → Nat) (sz : Nat) : Met l yX11_readP wq_X11_readP ({ frames := 4, cells := 0, slots := 0, locals := 91 }) (va_Pc [.ref h0] (pq_W (dC, dI) vwCl (tyQ cB cI cJ cZ) [(h0, .inr (11, mo30 fa0)), ((fa0 2), .inl (cI, 3002, .inl (upd (fun _ => 0) 0 0))), ((fa0 3), .inl (cI, 3002, .inl (upd (fun _ => 0) 0 0)))] sz)) (va_Qi (fun (r : Int32) (_ : SQ) => r = (-1)) (fun u => pq_B (dC, dI) vwCl [((fa0 2), .inl (cI, 3002, .inl (upd (fun _ => 0) 0 0))), ((fa0 3), .inl (cI, 3002, .inl (upd (fun _ => 0) 0 0))), (h0, .inr (11, mo31 fa0))] (va_A [(h0, .inr (11, mo30 fa0)), ((fa0 2), .inl (cI, 3002, .inl (upd (fun _ => 0) 0 0))), ((fa0 3), .inl (cI, 3002, .inl (upd (fun _ => 0) 0 0)))] sz)) (va_A [(h0, .inr (11, mo30 fa0)), ((fa0 2), .inl (cI, 3002, .inl (upd (fun _ => 0) 0 0))), ((fa0 3), .inl (cI, 3002, .inl (upd (fun _ => 0) 0 0)))] sz)) 0 0 (va_A [(h0, .inr (11, mo30 fa0)), ((fa0 2), .inl (cI, 3002, .inl (upd (fun _ => 0) 0 0))), ((fa0 3), .inl (cI, 3002, .inl (upd (fun _ => 0) 0 0)))] sz) := by
  refine Met.ofW (cc := cX11_readP) (maxL := 6) (ret := (some .int)) (by decide) rfl ?_
  intro p e s m args below meth c s₁ B hml hv
  obtain ⟨rfl, hsz, hP, hK, hD0⟩ := hv
  have hx := B.exec
  have hb := B.bytes
  have hr := B.returns
  have hts := atoms_spec (ws := wq_X11_readP) B.pre
  have hown : s.vm.findClass RX11 = some m.cls := findClass_of_methodNamed B.named
  have hlocks := B.notSynchronized
  subst hsz
  have hD := hD0.self (sz := s.heap.size)
  generalize hAe : va_A [(h0, .inr (11, mo30 fa0)), ((fa0 2), .inl (cI, 3002, .inl (upd (fun _ => 0) 0 0))), ((fa0 3), .inl (cI, 3002, .inl (upd (fun _ => 0) 0 0)))] s.heap.size = A at hD ⊢
  have hA : ∀ q : Nat, s.heap.size ≤ q → A q := fun q h => by rw [← hAe]; exact Or.inr h
  have hS : va_S A s.heap s.heap [] := va_S.rf
  have hP : va_P (dC, dI) vwCl [(h0, .inr (11, mo30 fa0)), ((fa0 2), .inl (cI, 3002, .inl (upd (fun _ => 0) 0 0))), ((fa0 3), .inl (cI, 3002, .inl (upd (fun _ => 0) 0 0)))] s.heap := hP
  obtain ⟨H, hH⟩ : ∃ H, H = s.heap := ⟨_, rfl⟩
  rw [← hH] at hP
  have hS : va_S A s.heap H [] := by rw [hH]; exact hS
  have hl := lv_entry ([.ref h0]) (n := 6) (Nat.le_of_ble_eq_true rfl)
  rw [lg_entry_eq]
  generalize (lg_sl ([.ref h0]) ++ List.replicate (6 - (lg_sl ([.ref h0])).length) Slot.unset).toArray = ls at hl ⊢
  have hl : lv_has ls 6 [(0, .ref h0)] := hl
  refine pq_heap hH ?_
  refine lv_aload_n hx hb dX11_readP_0 rfl (lv_at hl 0 rfl) ?_
  refine pq_ci (wr := []) (W1 := (fun u => [((fa0 2), .inl (cI, 3002, .inl (upd (fun _ => 0) 0 0))), ((fa0 3), .inl (cI, 3002, .inl (upd (fun _ => 0) 0 0))), (h0, .inr (11, mo31 fa0))])) (va_runV (As := []) (rest := []) ⟨hx, hb, hml, hown, hts⟩ (cq_X11_readA l dC dI cB cI cJ cZ h0 fa0 H.size) (cwV 0 hts gq_X11_readP_X11_readA_417 rfl rfl rfl (by decide +kernel) ⟨(by decide +kernel), (by decide +kernel)⟩) ⟨pq_blind, va_recv hK hP (ci := 11) (q0 := 0) rfl rfl, pq_pre hK hP hD [0, 1, 2] rfl rfl⟩ rfl rfl hl.1 rfl (lv_room (Nat.le_of_ble_eq_true rfl)) dX11_readP_1 ⟨(by decide +kernel), (by decide +kernel)⟩) hP hD hS hA [0, 1, 2] [] rfl rfl rfl (by decide) (fun r2 u1 H locs hw hP hD hS => ?_)
  subst hw
  have hR9 : pq_R (dC, dI) vwCl A [((fa0 2), .inl (cI, 3002, .inl (upd (fun _ => 0) 0 0))), ((fa0 3), .inl (cI, 3002, .inl (upd (fun _ => 0) 0 0))), (h0, .inr (11, mo31 fa0))] H := ⟨hP, hD⟩
  have hP := hR9.1
  have hD := hR9.2
  refine W.widen (k := 0) (n := 0) (by decide +kernel) (by decide +kernel) ?_
  refine lv_istore_n (lv' := [(1, .int (-1)), (0, .ref h0)]) hx hb dX11_readP_4 rfl hl (by decide) rfl (fun ls hl => ?_)
  refine lv_aload_n hx hb dX11_readP_5 rfl (lv_at hl 1 rfl) ?_
  refine va_get (D := (dC, dI)) (ci := 11) (v := .int 0) (C := RX11) (T := TX11) (N := 122) hx hb hts iq_X11_readP_X11 hown hK hP 2 rfl rfl 45 (by decide) (hts (Cond.fieldLink RX11 385 "CodePressModel" "from" "I") (List.mem_of_getElem? (i := 28) rfl)) (fun _ h9 => h9) rfl dX11_readP_6 ?_
  refine lv_istore_n (lv' := [(2, .int 0), (1, .int (-1)), (0, .ref h0)]) hx hb dX11_readP_9 rfl hl (by decide) rfl (fun ls hl => ?_)
  refine lv_aload_n hx hb dX11_readP_10 rfl (lv_at hl 2 rfl) ?_
  refine lv_bipush (v := 42) hx hb dX11_readP_11 (by decide) ?_
  refine pq_ci (wr := [((fa0 2), .inl (cI, 3002, .inl (upd (fun _ => 0) 0 0))), ((fa0 3), .inl (cI, 3002, .inl (upd (fun _ => 0) 0 0)))]) (W1 := (fun u => [(h0, .inr (11, mo31 fa0))])) (va_runV (As := [.int 42]) (rest := []) ⟨hx, hb, hml, hown, hts⟩ (cq_X11_isSign l dC dI cB cI cJ cZ h0 fa0 H.size) (cwV 1 hts gq_X11_readP_X11_isSign_348 rfl rfl rfl (by decide +kernel) ⟨(by decide +kernel), (by decide +kernel)⟩) ⟨pq_blind, va_recv hK hP (ci := 11) (q0 := 2) rfl rfl, pq_pre hK hP hD [2] rfl rfl⟩ rfl rfl hl.1 rfl (lv_room (Nat.le_of_ble_eq_true rfl)) dX11_readP_13 ⟨(by decide +kernel), (by decide +kernel)⟩) hP hD hS hA [2] [0, 1] rfl rfl rfl (by decide) (fun r4 u3 H locs hw hP hD hS => ?_)
  subst hw
  have hR9 : pq_R (dC, dI) vwCl A [((fa0 2), .inl (cI, 3002, .inl (upd (fun _ => 0) 0 0))), ((fa0 3), .inl (cI, 3002, .inl (upd (fun _ => 0) 0 0))), (h0, .inr (11, mo31 fa0))] H := ⟨hP, hD⟩
  have hP := hR9.1
  have hD := hR9.2
  refine W.widen (k := 0) (n := 0) (by decide +kernel) (by decide +kernel) ?_
  refine lv_if_ne (tgt := 37) hx hb dX11_readP_16 (by decide) (fun c_ => absurd (by decide) c_) (fun _ => ?_)
  refine lv_aload_n hx hb dX11_readP_19 rfl (lv_at hl 2 rfl) ?_
  refine lv_bipush (v := 47) hx hb dX11_readP_20 (by decide) ?_
  refine pq_ci (wr := [((fa0 2), .inl (cI, 3002, .inl (upd (fun _ => 0) 0 0))), ((fa0 3), .inl (cI, 3002, .inl (upd (fun _ => 0) 0 0)))]) (W1 := (fun u => [(h0, .inr (11, mo31 fa0))])) (va_runV (As := [.int 47]) (rest := []) ⟨hx, hb, hml, hown, hts⟩ (cq_X11_isSign_1 l dC dI cB cI cJ cZ h0 fa0 H.size) (cwV 1 hts gq_X11_readP_X11_isSign_1_348 rfl rfl rfl (by decide +kernel) ⟨(by decide +kernel), (by decide +kernel)⟩) ⟨pq_blind, va_recv hK hP (ci := 11) (q0 := 2) rfl rfl, pq_pre hK hP hD [2] rfl rfl⟩ rfl rfl hl.1 rfl (lv_room (Nat.le_of_ble_eq_true rfl)) dX11_readP_22 ⟨(by decide +kernel), (by decide +kernel)⟩) hP hD hS hA [2] [0, 1] rfl rfl rfl (by decide) (fun r6 u5 H locs hw hP hD hS => ?_)
  subst hw
  have hR9 : pq_R (dC, dI) vwCl A [((fa0 2), .inl (cI, 3002, .inl (upd (fun _ => 0) 0 0))), ((fa0 3), .inl (cI, 3002, .inl (upd (fun _ => 0) 0 0))), (h0, .inr (11, mo31 fa0))] H := ⟨hP, hD⟩
  have hP := hR9.1
  have hD := hR9.2
  refine W.widen (k := 0) (n := 0) (by decide +kernel) (by decide +kernel) ?_
  refine lv_if_ne (tgt := 37) hx hb dX11_readP_25 (by decide) (fun c_ => absurd (by decide) c_) (fun _ => ?_)
  refine lv_aload_n hx hb dX11_readP_28 rfl (lv_at hl 2 rfl) ?_
  refine lv_bipush (v := 37) hx hb dX11_readP_29 (by decide) ?_
  refine pq_ci (wr := [((fa0 2), .inl (cI, 3002, .inl (upd (fun _ => 0) 0 0))), ((fa0 3), .inl (cI, 3002, .inl (upd (fun _ => 0) 0 0)))]) (W1 := (fun u => [(h0, .inr (11, mo31 fa0))])) (va_runV (As := [.int 37]) (rest := []) ⟨hx, hb, hml, hown, hts⟩ (cq_X11_isSign_2 l dC dI cB cI cJ cZ h0 fa0 H.size) (cwV 1 hts gq_X11_readP_X11_isSign_2_348 rfl rfl rfl (by decide +kernel) ⟨(by decide +kernel), (by decide +kernel)⟩) ⟨pq_blind, va_recv hK hP (ci := 11) (q0 := 2) rfl rfl, pq_pre hK hP hD [2] rfl rfl⟩ rfl rfl hl.1 rfl (lv_room (Nat.le_of_ble_eq_true rfl)) dX11_readP_31 ⟨(by decide +kernel), (by decide +kernel)⟩) hP hD hS hA [2] [0, 1] rfl rfl rfl (by decide) (fun r8 u7 H locs hw hP hD hS => ?_)
  subst hw
  have hR9 : pq_R (dC, dI) vwCl A [((fa0 2), .inl (cI, 3002, .inl (upd (fun _ => 0) 0 0))), ((fa0 3), .inl (cI, 3002, .inl (upd (fun _ => 0) 0 0))), (h0, .inr (11, mo31 fa0))] H := ⟨hP, hD⟩
  have hP := hR9.1
  have hD := hR9.2
  refine W.widen (k := 0) (n := 0) (by decide +kernel) (by decide +kernel) ?_
  refine lv_if_eq (tgt := 78) hx hb dX11_readP_34 (by decide) (fun _ => ?_) (fun c_ => absurd (by decide) c_)
  refine lv_aload_n hx hb dX11_readP_78 rfl (lv_at hl 2 rfl) ?_
  refine lv_iload_n hx hb dX11_readP_79 rfl (lv_at hl 0 rfl) ?_
  refine va_put (D := (dC, dI)) (ci := 11) (v := .int 0) (ty := .int) (C := RX11) (T := TX11) (N := 122) hx hb hts iq_X11_readP_X11 tyX11 tyX11_ok nmX11 hown hK hP hD hS 2 rfl rfl 45 (by decide) (hts (Cond.fieldLink RX11 385 "CodePressModel" "from" "I") (List.mem_of_getElem? (i := 28) rfl)) (fun _ h9 => h9) rfl (by decide +kernel) rfl rfl (Nat.le_of_ble_eq_true rfl) dX11_readP_80 (fun H locs hP hD hS => ?_)
  have hR9 : pq_R (dC, dI) vwCl A [((fa0 2), .inl (cI, 3002, .inl (upd (fun _ => 0) 0 0))), ((fa0 3), .inl (cI, 3002, .inl (upd (fun _ => 0) 0 0))), (h0, .inr (11, mo31 fa0))] H := ⟨hP, hD⟩
  have hP := hR9.1
  have hD := hR9.2
  refine lv_iload_n hx hb dX11_readP_83 rfl (lv_at hl 1 rfl) ?_
  have hP9 := pq_P.pick (wc := [((fa0 2), .inl (cI, 3002, .inl (upd (fun _ => 0) 0 0))), ((fa0 3), .inl (cI, 3002, .inl (upd (fun _ => 0) 0 0))), (h0, .inr (11, mo31 fa0))]) hP [0, 1, 2] rfl
  have hD9 := hD.sub (ws' := [((fa0 2), .inl (cI, 3002, .inl (upd (fun _ => 0) 0 0))), ((fa0 3), .inl (cI, 3002, .inl (upd (fun _ => 0) 0 0))), (h0, .inr (11, mo31 fa0))]) [0, 1, 2] (by decide) rfl
  refine W.widen (k := 0) (n := 0) (by decide +kernel) (by decide +kernel) ?_
  exact W.iret (v := (-1)) hx hb hr (fun t ht hW => ⟨⟨(-1), sq_u [] [], rfl, rfl, pq_B.of ht hP9 hD9⟩, hS.F ht⟩) hS.2.2 dX11_readP_84
def wq_X11_isSign_3_r1 : List Cond := [Cond.code yX11_good cX11_good 1 (some .boolean), Cond.fieldLink RX11 319 "CodePressModel" "fault" "I", Cond.methodLink RX11 332 yX11_good, Cond.instanceMethod yX11_good, Cond.selects RX11 yX11_good yX11_good, Cond.initialized RX11]
def wq_X11_isSign_3 : List Cond := Cond.code yX11_isSign cX11_isSign 2 (some .boolean) :: (wq_X11_isSign_3_r1 ++ wsX110)
theorem iq_X11_isSign_3_X11 : ∀ w ∈ wsX110, w ∈ wq_X11_isSign_3 := fun _ h => List.mem_cons_of_mem _ (List.mem_append_right _ h)
set_option maxRecDepth 20000 in
theorem gq_X11_isSign_3_X11_good_2_332_0 : GoodIn wq_X11_isSign_3 (Cond.code yX11_good cX11_good 1 (some .boolean) :: wq_X11_good_2_r1) := goodIn_r _ [1, 2] (by decide +kernel) (by decide +kernel)
set_option maxRecDepth 20000 in
theorem gq_X11_isSign_3_X11_good_2_332 : GoodIn wq_X11_isSign_3 (wsV RX11 332 RX11 yX11_good wq_X11_good_2) := goodIn_app (goodIn_r _ [3, 4, 5, 6] (by decide +kernel) (by decide +kernel)) (goodIn_ca gq_X11_isSign_3_X11_good_2_332_0 (goodIn_sub iq_X11_isSign_3_X11 guX11))
set_option maxHeartbeats 4000000 in
set_option maxRecDepth 100000 in
theorem cq_X11_isSign_3 (l : Launch) (dC : Nat → ClassId) (dI : Nat → Nat → Nat) (cB cI cJ cZ : ClassId) (h0 : Nat) (fa0 : Nat → Nat) (sz : Nat) : Met l yX11_isSign wq_X11_isSign_3 ({ frames := 1, cells := 0, slots := 0, locals := 20 }) (va_Pc [.ref h0, .int 43] (pq_W (dC, dI) vwCl (tyQ cB cI cJ cZ) [(h0, .inr (11, mo31 fa0))] sz)) (va_Qi (fun (r : Int32) (_ : SQ) => r = 0) (fun u => pq_B (dC, dI) vwCl [(h0, .inr (11, mo31 fa0))] (va_A [(h0, .inr (11, mo31 fa0))] sz)) (va_A [(h0, .inr (11, mo31 fa0))] sz)) 0 0 (va_A [(h0, .inr (11, mo31 fa0))] sz) := by
  refine Met.ofW (cc := cX11_isSign) (maxL := 2) (ret := (some .boolean)) (by decide) rfl ?_
  intro p e s m args below meth c s₁ B hml hv
  obtain ⟨rfl, hsz, hP, hK, hD0⟩ := hv
  have hx := B.exec
  have hb := B.bytes
  have hr := B.returns
  have hts := atoms_spec (ws := wq_X11_isSign_3) B.pre
  have hown : s.vm.findClass RX11 = some m.cls := findClass_of_methodNamed B.named
  have hlocks := B.notSynchronized
  subst hsz
  have hD := hD0.self (sz := s.heap.size)
  generalize hAe : va_A [(h0, .inr (11, mo31 fa0))] s.heap.size = A at hD ⊢
  have hA : ∀ q : Nat, s.heap.size ≤ q → A q := fun q h => by rw [← hAe]; exact Or.inr h
  have hS : va_S A s.heap s.heap [] := va_S.rf
  have hP : va_P (dC, dI) vwCl [(h0, .inr (11, mo31 fa0))] s.heap := hP
  obtain ⟨H, hH⟩ : ∃ H, H = s.heap := ⟨_, rfl⟩
  rw [← hH] at hP
  have hS : va_S A s.heap H [] := by rw [hH]; exact hS
  have hl := lv_entry ([.ref h0, .int 43]) (n := 2) (Nat.le_of_ble_eq_true rfl)
  rw [lg_entry_eq]
  generalize (lg_sl ([.ref h0, .int 43]) ++ List.replicate (2 - (lg_sl ([.ref h0, .int 43])).length) Slot.unset).toArray = ls at hl ⊢
  have hl : lv_has ls 2 [(0, .ref h0), (1, .int 43)] := hl
  refine pq_heap hH ?_
  refine lv_aload_n hx hb dX11_isSign_0 rfl (lv_at hl 0 rfl) ?_
  refine pq_ci (wr := []) (W1 := (fun u => [(h0, .inr (11, mo31 fa0))])) (va_runV (As := []) (rest := []) ⟨hx, hb, hml, hown, hts⟩ (cq_X11_good_2 l dC dI cB cI cJ cZ h0 fa0 H.size) (cwV 0 hts gq_X11_isSign_3_X11_good_2_332 rfl rfl rfl (by decide +kernel) ⟨(by decide +kernel), (by decide +kernel)⟩) ⟨pq_blind, va_recv hK hP (ci := 11) (q0 := 0) rfl rfl, pq_pre hK hP hD [0] rfl rfl⟩ rfl rfl hl.1 rfl (lv_room (Nat.le_of_ble_eq_true rfl)) dX11_isSign_1 ⟨(by decide +kernel), (by decide +kernel)⟩) hP hD hS hA [0] [] rfl rfl rfl (by decide) (fun r2 u1 H locs hw hP hD hS => ?_)
  subst hw
  have hR9 : pq_R (dC, dI) vwCl A [(h0, .inr (11, mo31 fa0))] H := ⟨hP, hD⟩
  have hP := hR9.1
  have hD := hR9.2
  refine W.widen (k := 0) (n := 0) (by decide +kernel) (by decide +kernel) ?_
  refine lv_if_eq (tgt := 37) hx hb dX11_isSign_4 (by decide) (fun _ => ?_) (fun c_ => absurd (by decide) c_)
  refine lv_iconst (v := 0) hx hb dX11_isSign_37 (by decide) ?_
  have hP9 := pq_P.pick (wc := [(h0, .inr (11, mo31 fa0))]) hP [0] rfl
  have hD9 := hD.sub (ws' := [(h0, .inr (11, mo31 fa0))]) [0] (by decide) rfl
  refine W.widen (k := 0) (n := 0) (by decide +kernel) (by decide +kernel) ?_
  exact W.zret (v := 0) hx hb hr rfl (fun t ht hW => ⟨⟨0, sq_u [] [], rfl, rfl, pq_B.of ht hP9 hD9⟩, hS.F ht⟩) hS.2.2 dX11_isSign_38
def wq_X11_isSign_4_r1 : List Cond := [Cond.code yX11_good cX11_good 1 (some .boolean), Cond.fieldLink RX11 319 "CodePressModel" "fault" "I", Cond.methodLink RX11 332 yX11_good, Cond.instanceMethod yX11_good, Cond.selects RX11 yX11_good yX11_good, Cond.initialized RX11]
def wq_X11_isSign_4 : List Cond := Cond.code yX11_isSign cX11_isSign 2 (some .boolean) :: (wq_X11_isSign_4_r1 ++ wsX110)
theorem iq_X11_isSign_4_X11 : ∀ w ∈ wsX110, w ∈ wq_X11_isSign_4 := fun _ h => List.mem_cons_of_mem _ (List.mem_append_right _ h)
set_option maxRecDepth 20000 in
theorem gq_X11_isSign_4_X11_good_2_332_0 : GoodIn wq_X11_isSign_4 (Cond.code yX11_good cX11_good 1 (some .boolean) :: wq_X11_good_2_r1) := goodIn_r _ [1, 2] (by decide +kernel) (by decide +kernel)
set_option maxRecDepth 20000 in
theorem gq_X11_isSign_4_X11_good_2_332 : GoodIn wq_X11_isSign_4 (wsV RX11 332 RX11 yX11_good wq_X11_good_2) := goodIn_app (goodIn_r _ [3, 4, 5, 6] (by decide +kernel) (by decide +kernel)) (goodIn_ca gq_X11_isSign_4_X11_good_2_332_0 (goodIn_sub iq_X11_isSign_4_X11 guX11))
set_option maxHeartbeats 4000000 in
set_option maxRecDepth 100000 in
theorem cq_X11_isSign_4 (l : Launch) (dC : Nat → ClassId) (dI : Nat → Nat → Nat) (cB cI cJ cZ : ClassId) (h0 : Nat) (fa0 : Nat → Nat) (sz : Nat) : Met l yX11_isSign wq_X11_isSign_4 ({ frames := 1, cells := 0, slots := 0, locals := 20 }) (va_Pc [.ref h0, .int 45] (pq_W (dC, dI) vwCl (tyQ cB cI cJ cZ) [(h0, .inr (11, mo31 fa0))] sz)) (va_Qi (fun (r : Int32) (_ : SQ) => r = 0) (fun u => pq_B (dC, dI) vwCl [(h0, .inr (11, mo31 fa0))] (va_A [(h0, .inr (11, mo31 fa0))] sz)) (va_A [(h0, .inr (11, mo31 fa0))] sz)) 0 0 (va_A [(h0, .inr (11, mo31 fa0))] sz) := by
  refine Met.ofW (cc := cX11_isSign) (maxL := 2) (ret := (some .boolean)) (by decide) rfl ?_
  intro p e s m args below meth c s₁ B hml hv
  obtain ⟨rfl, hsz, hP, hK, hD0⟩ := hv
  have hx := B.exec
  have hb := B.bytes
  have hr := B.returns
  have hts := atoms_spec (ws := wq_X11_isSign_4) B.pre
  have hown : s.vm.findClass RX11 = some m.cls := findClass_of_methodNamed B.named
  have hlocks := B.notSynchronized
  subst hsz
  have hD := hD0.self (sz := s.heap.size)
  generalize hAe : va_A [(h0, .inr (11, mo31 fa0))] s.heap.size = A at hD ⊢
  have hA : ∀ q : Nat, s.heap.size ≤ q → A q := fun q h => by rw [← hAe]; exact Or.inr h
  have hS : va_S A s.heap s.heap [] := va_S.rf
  have hP : va_P (dC, dI) vwCl [(h0, .inr (11, mo31 fa0))] s.heap := hP
  obtain ⟨H, hH⟩ : ∃ H, H = s.heap := ⟨_, rfl⟩
  rw [← hH] at hP
  have hS : va_S A s.heap H [] := by rw [hH]; exact hS
  have hl := lv_entry ([.ref h0, .int 45]) (n := 2) (Nat.le_of_ble_eq_true rfl)
  rw [lg_entry_eq]
  generalize (lg_sl ([.ref h0, .int 45]) ++ List.replicate (2 - (lg_sl ([.ref h0, .int 45])).length) Slot.unset).toArray = ls at hl ⊢
  have hl : lv_has ls 2 [(0, .ref h0), (1, .int 45)] := hl
  refine pq_heap hH ?_
  refine lv_aload_n hx hb dX11_isSign_0 rfl (lv_at hl 0 rfl) ?_
  refine pq_ci (wr := []) (W1 := (fun u => [(h0, .inr (11, mo31 fa0))])) (va_runV (As := []) (rest := []) ⟨hx, hb, hml, hown, hts⟩ (cq_X11_good_2 l dC dI cB cI cJ cZ h0 fa0 H.size) (cwV 0 hts gq_X11_isSign_4_X11_good_2_332 rfl rfl rfl (by decide +kernel) ⟨(by decide +kernel), (by decide +kernel)⟩) ⟨pq_blind, va_recv hK hP (ci := 11) (q0 := 0) rfl rfl, pq_pre hK hP hD [0] rfl rfl⟩ rfl rfl hl.1 rfl (lv_room (Nat.le_of_ble_eq_true rfl)) dX11_isSign_1 ⟨(by decide +kernel), (by decide +kernel)⟩) hP hD hS hA [0] [] rfl rfl rfl (by decide) (fun r2 u1 H locs hw hP hD hS => ?_)
  subst hw
  have hR9 : pq_R (dC, dI) vwCl A [(h0, .inr (11, mo31 fa0))] H := ⟨hP, hD⟩
  have hP := hR9.1
  have hD := hR9.2
  refine W.widen (k := 0) (n := 0) (by decide +kernel) (by decide +kernel) ?_
  refine lv_if_eq (tgt := 37) hx hb dX11_isSign_4 (by decide) (fun _ => ?_) (fun c_ => absurd (by decide) c_)
  refine lv_iconst (v := 0) hx hb dX11_isSign_37 (by decide) ?_
  have hP9 := pq_P.pick (wc := [(h0, .inr (11, mo31 fa0))]) hP [0] rfl
  have hD9 := hD.sub (ws' := [(h0, .inr (11, mo31 fa0))]) [0] (by decide) rfl
  refine W.widen (k := 0) (n := 0) (by decide +kernel) (by decide +kernel) ?_
  exact W.zret (v := 0) hx hb hr rfl (fun t ht hW => ⟨⟨0, sq_u [] [], rfl, rfl, pq_B.of ht hP9 hD9⟩, hS.F ht⟩) hS.2.2 dX11_isSign_38
def wq_X11_readS_r1 : List Cond := [Cond.code yX11_readP cX11_readP 6 (some .int), Cond.code yX11_readA cX11_readA 5 (some .int), Cond.code yX11_readU cX11_readU 5 (some .int), Cond.code yX11_good cX11_good 1 (some .boolean), Cond.fieldLink RX11 319 "CodePressModel" "fault" "I", Cond.methodLink RX11 332 yX11_good, Cond.instanceMethod yX11_good, Cond.selects RX11 yX11_good yX11_good, Cond.initialized RX11, Cond.fieldLink RX11 325 "CodePressModel" "t" "I", Cond.code yX11_beginsU cX11_beginsU 1 (some .boolean), Cond.fieldLink RX11 25 "CodePressModel" "sort" "[I", Cond.methodLink RX11 423 yX11_beginsU, Cond.instanceMethod yX11_beginsU, Cond.selects RX11 yX11_beginsU yX11_beginsU, Cond.code yX11_failsHere cX11_failsHere 2 none, Cond.fieldLink RX11 28 "CodePressModel" "at" "[I", Cond.code yX11_fails cX11_fails 3 none, Cond.fieldLink RX11 322 "CodePressModel" "place" "I", Cond.methodLink RX11 328 yX11_fails, Cond.instanceMethod yX11_fails, Cond.selects RX11 yX11_fails yX11_fails, Cond.methodLink RX11 336 yX11_failsHere, Cond.instanceMethod yX11_failsHere]
def wq_X11_readS_r2 : List Cond := [Cond.selects RX11 yX11_failsHere yX11_failsHere, Cond.methodLink RX11 420 yX11_readU, Cond.instanceMethod yX11_readU, Cond.selects RX11 yX11_readU yX11_readU, Cond.fieldLink RX11 385 "CodePressModel" "from" "I", Cond.methodLink RX11 417 yX11_readA, Cond.instanceMethod yX11_readA, Cond.selects RX11 yX11_readA yX11_readA, Cond.code yX11_isSign cX11_isSign 2 (some .boolean), Cond.methodLink RX11 348 yX11_isSign, Cond.instanceMethod yX11_isSign, Cond.selects RX11 yX11_isSign yX11_isSign, Cond.methodLink RX11 414 yX11_readP, Cond.instanceMethod yX11_readP, Cond.selects RX11 yX11_readP yX11_readP]
def wq_X11_readS : List Cond := Cond.code yX11_readS cX11_readS 6 (some .int) :: ((wq_X11_readS_r1 ++ wq_X11_readS_r2) ++ wsX110)
theorem iq_X11_readS_X11 : ∀ w ∈ wsX110, w ∈ wq_X11_readS := fun _ h => List.mem_cons_of_mem _ (List.mem_append_right _ h)
set_option maxRecDepth 20000 in
theorem gq_X11_readS_X11_readP_414_0 : GoodIn wq_X11_readS (Cond.code yX11_readP cX11_readP 6 (some .int) :: (wq_X11_readP_r1 ++ wq_X11_readP_r2)) := goodIn_r _ [1, 2, 3, 4, 5, 6, 7, 8, 9, 10, 11, 12, 13, 14, 15, 16, 17, 18, 19, 20, 21, 22, 23, 24, 25, 26, 27, 28, 29, 30, 31, 32, 33, 34, 35, 36] (by decide +kernel) (by decide +kernel)
set_option maxRecDepth 20000 in
theorem gq_X11_readS_X11_readP_414 : GoodIn wq_X11_readS (wsV RX11 414 RX11 yX11_readP wq_X11_readP) := goodIn_app (goodIn_r _ [37, 38, 39, 9] (by decide +kernel) (by decide +kernel)) (goodIn_ca gq_X11_readS_X11_readP_414_0 (goodIn_sub iq_X11_readS_X11 guX11))
set_option maxRecDepth 20000 in
theorem gq_X11_readS_X11_isSign_3_348_0 : GoodIn wq_X11_readS (Cond.code yX11_isSign cX11_isSign 2 (some .boolean) :: wq_X11_isSign_3_r1) := goodIn_r _ [33, 4, 5, 6, 7, 8, 9] (by decide +kernel) (by decide +kernel)
set_option maxRecDepth 20000 in
theorem gq_X11_readS_X11_isSign_3_348 : GoodIn wq_X11_readS (wsV RX11 348 RX11 yX11_isSign wq_X11_isSign_3) := goodIn_app (goodIn_r _ [34, 35, 36, 9] (by decide +kernel) (by decide +kernel)) (goodIn_ca gq_X11_readS_X11_isSign_3_348_0 (goodIn_sub iq_X11_readS_X11 guX11))
set_option maxRecDepth 20000 in
theorem gq_X11_readS_X11_isSign_4_348_0 : GoodIn wq_X11_readS (Cond.code yX11_isSign cX11_isSign 2 (some .boolean) :: wq_X11_isSign_4_r1) := goodIn_r _ [33, 4, 5, 6, 7, 8, 9] (by decide +kernel) (by decide +kernel)
set_option maxRecDepth 20000 in
theorem gq_X11_readS_X11_isSign_4_348 : GoodIn wq_X11_readS (wsV RX11 348 RX11 yX11_isSign wq_X11_isSign_4) := goodIn_app (goodIn_r _ [34, 35, 36, 9] (by decide +kernel) (by decide +kernel)) (goodIn_ca gq_X11_readS_X11_isSign_4_348_0 (goodIn_sub iq_X11_readS_X11 guX11))
set_option maxHeartbeats 4000000 in
set_option maxRecDepth 100000 in
theorem cq_X11_readS (l : Launch) (dC : Nat → ClassId) (dI : Nat → Nat → Nat) (cB cI cJ cZ : ClassId) (h0 : Nat) (fa0 : Nat → Nat) (sz : Nat) : Met l yX11_readS wq_X11_readS ({ frames := 5, cells := 0, slots := 0, locals := 116 }) (va_Pc [.ref h0] (pq_W (dC, dI) vwCl (tyQ cB cI cJ cZ) [(h0, .inr (11, mo30 fa0)), ((fa0 2), .inl (cI, 3002, .inl (upd (fun _ => 0) 0 0))), ((fa0 3), .inl (cI, 3002, .inl (upd (fun _ => 0) 0 0)))] sz)) (va_Qi (fun (r : Int32) (_ : SQ) => r = (-1)) (fun u => pq_B (dC, dI) vwCl [((fa0 2), .inl (cI, 3002, .inl (upd (fun _ => 0) 0 0))), ((fa0 3), .inl (cI, 3002, .inl (upd (fun _ => 0) 0 0))), (h0, .inr (11, mo31 fa0))] (va_A [(h0, .inr (11, mo30 fa0)), ((fa0 2), .inl (cI, 3002, .inl (upd (fun _ => 0) 0 0))), ((fa0 3), .inl (cI, 3002, .inl (upd (fun _ => 0) 0 0)))] sz)) (va_A [(h0, .inr (11, mo30 fa0)), ((fa0 2), .inl (cI, 3002, .inl (upd (fun _ => 0) 0 0))), ((fa0 3), .inl (cI, 3002, .inl (upd (fun _ => 0) 0 0)))] sz)) 0 0 (va_A [(h0, .inr (11, mo30 fa0)), ((fa0 2), .inl (cI, 3002, .inl (upd (fun _ => 0) 0 0))), ((fa0 3), .inl (cI, 3002, .inl (upd (fun _ => 0) 0 0)))] sz) := by
  refine Met.ofW (cc := cX11_readS) (maxL := 6) (ret := (some .int)) (by decide) rfl ?_
  intro p e s m args below meth c s₁ B hml hv
  obtain ⟨rfl, hsz, hP, hK, hD0⟩ := hv
  have hx := B.exec
  have hb := B.bytes
  have hr := B.returns
  have hts := atoms_spec (ws := wq_X11_readS) B.pre
  have hown : s.vm.findClass RX11 = some m.cls := findClass_of_methodNamed B.named
  have hlocks := B.notSynchronized
  subst hsz
  have hD := hD0.self (sz := s.heap.size)
  generalize hAe : va_A [(h0, .inr (11, mo30 fa0)), ((fa0 2), .inl (cI, 3002, .inl (upd (fun _ => 0) 0 0))), ((fa0 3), .inl (cI, 3002, .inl (upd (fun _ => 0) 0 0)))] s.heap.size = A at hD ⊢
  have hA : ∀ q : Nat, s.heap.size ≤ q → A q := fun q h => by rw [← hAe]; exact Or.inr h
  have hS : va_S A s.heap s.heap [] := va_S.rf
  have hP : va_P (dC, dI) vwCl [(h0, .inr (11, mo30 fa0)), ((fa0 2), .inl (cI, 3002, .inl (upd (fun _ => 0) 0 0))), ((fa0 3), .inl (cI, 3002, .inl (upd (fun _ => 0) 0 0)))] s.heap := hP
  obtain ⟨H, hH⟩ : ∃ H, H = s.heap := ⟨_, rfl⟩
  rw [← hH] at hP
  have hS : va_S A s.heap H [] := by rw [hH]; exact hS
  have hl := lv_entry ([.ref h0]) (n := 6) (Nat.le_of_ble_eq_true rfl)
  rw [lg_entry_eq]
  generalize (lg_sl ([.ref h0]) ++ List.replicate (6 - (lg_sl ([.ref h0])).length) Slot.unset).toArray = ls at hl ⊢
  have hl : lv_has ls 6 [(0, .ref h0)] := hl
  refine pq_heap hH ?_
  refine lv_aload_n hx hb dX11_readS_0 rfl (lv_at hl 0 rfl) ?_
  refine pq_ci (wr := []) (W1 := (fun u => [((fa0 2), .inl (cI, 3002, .inl (upd (fun _ => 0) 0 0))), ((fa0 3), .inl (cI, 3002, .inl (upd (fun _ => 0) 0 0))), (h0, .inr (11, mo31 fa0))])) (va_runV (As := []) (rest := []) ⟨hx, hb, hml, hown, hts⟩ (cq_X11_readP l dC dI cB cI cJ cZ h0 fa0 H.size) (cwV 0 hts gq_X11_readS_X11_readP_414 rfl rfl rfl (by decide +kernel) ⟨(by decide +kernel), (by decide +kernel)⟩) ⟨pq_blind, va_recv hK hP (ci := 11) (q0 := 0) rfl rfl, pq_pre hK hP hD [0, 1, 2] rfl rfl⟩ rfl rfl hl.1 rfl (lv_room (Nat.le_of_ble_eq_true rfl)) dX11_readS_1 ⟨(by decide +kernel), (by decide +kernel)⟩) hP hD hS hA [0, 1, 2] [] rfl rfl rfl (by decide) (fun r2 u1 H locs hw hP hD hS => ?_)
  subst hw
  have hR9 : pq_R (dC, dI) vwCl A [((fa0 2), .inl (cI, 3002, .inl (upd (fun _ => 0) 0 0))), ((fa0 3), .inl (cI, 3002, .inl (upd (fun _ => 0) 0 0))), (h0, .inr (11, mo31 fa0))] H := ⟨hP, hD⟩
  have hP := hR9.1
  have hD := hR9.2
  refine W.widen (k := 0) (n := 0) (by decide +kernel) (by decide +kernel) ?_
  refine lv_istore_n (lv' := [(1, .int (-1)), (0, .ref h0)]) hx hb dX11_readS_4 rfl hl (by decide) rfl (fun ls hl => ?_)
  refine lv_aload_n hx hb dX11_readS_5 rfl (lv_at hl 1 rfl) ?_
  refine va_get (D := (dC, dI)) (ci := 11) (v := .int 0) (C := RX11) (T := TX11) (N := 122) hx hb hts iq_X11_readS_X11 hown hK hP 2 rfl rfl 45 (by decide) (hts (Cond.fieldLink RX11 385 "CodePressModel" "from" "I") (List.mem_of_getElem? (i := 29) rfl)) (fun _ h9 => h9) rfl dX11_readS_6 ?_
  refine lv_istore_n (lv' := [(2, .int 0), (1, .int (-1)), (0, .ref h0)]) hx hb dX11_readS_9 rfl hl (by decide) rfl (fun ls hl => ?_)
  refine lv_aload_n hx hb dX11_readS_10 rfl (lv_at hl 2 rfl) ?_
  refine lv_bipush (v := 43) hx hb dX11_readS_11 (by decide) ?_
  refine pq_ci (wr := [((fa0 2), .inl (cI, 3002, .inl (upd (fun _ => 0) 0 0))), ((fa0 3), .inl (cI, 3002, .inl (upd (fun _ => 0) 0 0)))]) (W1 := (fun u => [(h0, .inr (11, mo31 fa0))])) (va_runV (As := [.int 43]) (rest := []) ⟨hx, hb, hml, hown, hts⟩ (cq_X11_isSign_3 l dC dI cB cI cJ cZ h0 fa0 H.size) (cwV 1 hts gq_X11_readS_X11_isSign_3_348 rfl rfl rfl (by decide +kernel) ⟨(by decide +kernel), (by decide +kernel)⟩) ⟨pq_blind, va_recv hK hP (ci := 11) (q0 := 2) rfl rfl, pq_pre hK hP hD [2] rfl rfl⟩ rfl rfl hl.1 rfl (lv_room (Nat.le_of_ble_eq_true rfl)) dX11_readS_13 ⟨(by decide +kernel), (by decide +kernel)⟩) hP hD hS hA [2] [0, 1] rfl rfl rfl (by decide) (fun r4 u3 H locs hw hP hD hS => ?_)
  subst hw
  have hR9 : pq_R (dC, dI) vwCl A [((fa0 2), .inl (cI, 3002, .inl (upd (fun _ => 0) 0 0))), ((fa0 3), .inl (cI, 3002, .inl (upd (fun _ => 0) 0 0))), (h0, .inr (11, mo31 fa0))] H := ⟨hP, hD⟩
  have hP := hR9.1
  have hD := hR9.2
  refine W.widen (k := 0) (n := 0) (by decide +kernel) (by decide +kernel) ?_
  refine lv_if_ne (tgt := 28) hx hb dX11_readS_16 (by decide) (fun c_ => absurd (by decide) c_) (fun _ => ?_)
  refine lv_aload_n hx hb dX11_readS_19 rfl (lv_at hl 2 rfl) ?_
  refine lv_bipush (v := 45) hx hb dX11_readS_20 (by decide) ?_
  refine pq_ci (wr := [((fa0 2), .inl (cI, 3002, .inl (upd (fun _ => 0) 0 0))), ((fa0 3), .inl (cI, 3002, .inl (upd (fun _ => 0) 0 0)))]) (W1 := (fun u => [(h0, .inr (11, mo31 fa0))])) (va_runV (As := [.int 45]) (rest := []) ⟨hx, hb, hml, hown, hts⟩ (cq_X11_isSign_4 l dC dI cB cI cJ cZ h0 fa0 H.size) (cwV 1 hts gq_X11_readS_X11_isSign_4_348 rfl rfl rfl (by decide +kernel) ⟨(by decide +kernel), (by decide +kernel)⟩) ⟨pq_blind, va_recv hK hP (ci := 11) (q0 := 2) rfl rfl, pq_pre hK hP hD [2] rfl rfl⟩ rfl rfl hl.1 rfl (lv_room (Nat.le_of_ble_eq_true rfl)) dX11_readS_22 ⟨(by decide +kernel), (by decide +kernel)⟩) hP hD hS hA [2] [0, 1] rfl rfl rfl (by decide) (fun r6 u5 H locs hw hP hD hS => ?_)
  subst hw
  have hR9 : pq_R (dC, dI) vwCl A [((fa0 2), .inl (cI, 3002, .inl (upd (fun _ => 0) 0 0))), ((fa0 3), .inl (cI, 3002, .inl (upd (fun _ => 0) 0 0))), (h0, .inr (11, mo31 fa0))] H := ⟨hP, hD⟩
  have hP := hR9.1
  have hD := hR9.2
  refine W.widen (k := 0) (n := 0) (by decide +kernel) (by decide +kernel) ?_
  refine lv_if_eq (tgt := 69) hx hb dX11_readS_25 (by decide) (fun _ => ?_) (fun c_ => absurd (by decide) c_)
  refine lv_aload_n hx hb dX11_readS_69 rfl (lv_at hl 2 rfl) ?_
  refine lv_iload_n hx hb dX11_readS_70 rfl (lv_at hl 0 rfl) ?_
  refine va_put (D := (dC, dI)) (ci := 11) (v := .int 0) (ty := .int) (C := RX11) (T := TX11) (N := 122) hx hb hts iq_X11_readS_X11 tyX11 tyX11_ok nmX11 hown hK hP hD hS 2 rfl rfl 45 (by decide) (hts (Cond.fieldLink RX11 385 "CodePressModel" "from" "I") (List.mem_of_getElem? (i := 29) rfl)) (fun _ h9 => h9) rfl (by decide +kernel) rfl rfl (Nat.le_of_ble_eq_true rfl) dX11_readS_71 (fun H locs hP hD hS => ?_)
  have hR9 : pq_R (dC, dI) vwCl A [((fa0 2), .inl (cI, 3002, .inl (upd (fun _ => 0) 0 0))), ((fa0 3), .inl (cI, 3002, .inl (upd (fun _ => 0) 0 0))), (h0, .inr (11, mo31 fa0))] H := ⟨hP, hD⟩
  have hP := hR9.1
  have hD := hR9.2
  refine lv_iload_n hx hb dX11_readS_74 rfl (lv_at hl 1 rfl) ?_
  have hP9 := pq_P.pick (wc := [((fa0 2), .inl (cI, 3002, .inl (upd (fun _ => 0) 0 0))), ((fa0 3), .inl (cI, 3002, .inl (upd (fun _ => 0) 0 0))), (h0, .inr (11, mo31 fa0))]) hP [0, 1, 2] rfl
  have hD9 := hD.sub (ws' := [((fa0 2), .inl (cI, 3002, .inl (upd (fun _ => 0) 0 0))), ((fa0 3), .inl (cI, 3002, .inl (upd (fun _ => 0) 0 0))), (h0, .inr (11, mo31 fa0))]) [0, 1, 2] (by decide) rfl
  refine W.widen (k := 0) (n := 0) (by decide +kernel) (by decide +kernel) ?_
  exact W.iret (v := (-1)) hx hb hr (fun t ht hW => ⟨⟨(-1), sq_u [] [], rfl, rfl, pq_B.of ht hP9 hD9⟩, hS.F ht⟩) hS.2.2 dX11_readS_75
def wq_X11_isSign_5_r1 : List Cond := [Cond.code yX11_good cX11_good 1 (some .boolean), Cond.fieldLink RX11 319 "CodePressModel" "fault" "I", Cond.methodLink RX11 332 yX11_good, Cond.instanceMethod yX11_good, Cond.selects RX11 yX11_good yX11_good, Cond.initialized RX11]
def wq_X11_isSign_5 : List Cond := Cond.code yX11_isSign cX11_isSign 2 (some .boolean) :: (wq_X11_isSign_5_r1 ++ wsX110)
theorem iq_X11_isSign_5_X11 : ∀ w ∈ wsX110, w ∈ wq_X11_isSign_5 := fun _ h => List.mem_cons_of_mem _ (List.mem_append_right _ h)
set_option maxRecDepth 20000 in
theorem gq_X11_isSign_5_X11_good_2_332_0 : GoodIn wq_X11_isSign_5 (Cond.code yX11_good cX11_good 1 (some .boolean) :: wq_X11_good_2_r1) := goodIn_r _ [1, 2] (by decide +kernel) (by decide +kernel)
set_option maxRecDepth 20000 in
theorem gq_X11_isSign_5_X11_good_2_332 : GoodIn wq_X11_isSign_5 (wsV RX11 332 RX11 yX11_good wq_X11_good_2) := goodIn_app (goodIn_r _ [3, 4, 5, 6] (by decide +kernel) (by decide +kernel)) (goodIn_ca gq_X11_isSign_5_X11_good_2_332_0 (goodIn_sub iq_X11_isSign_5_X11 guX11))
set_option maxHeartbeats 4000000 in
set_option maxRecDepth 100000 in
theorem cq_X11_isSign_5 (l : Launch) (dC : Nat → ClassId) (dI : Nat → Nat → Nat) (cB cI cJ cZ : ClassId) (h0 : Nat) (fa0 : Nat → Nat) (sz : Nat) : Met l yX11_isSign wq_X11_isSign_5 ({ frames := 1, cells := 0, slots := 0, locals := 20 }) (va_Pc [.ref h0, .int 256] (pq_W (dC, dI) vwCl (tyQ cB cI cJ cZ) [(h0, .inr (11, mo31 fa0))] sz)) (va_Qi (fun (r : Int32) (_ : SQ) => r = 0) (fun u => pq_B (dC, dI) vwCl [(h0, .inr (11, mo31 fa0))] (va_A [(h0, .inr (11, mo31 fa0))] sz)) (va_A [(h0, .inr (11, mo31 fa0))] sz)) 0 0 (va_A [(h0, .inr (11, mo31 fa0))] sz) := by
  refine Met.ofW (cc := cX11_isSign) (maxL := 2) (ret := (some .boolean)) (by decide) rfl ?_
  intro p e s m args below meth c s₁ B hml hv
  obtain ⟨rfl, hsz, hP, hK, hD0⟩ := hv
  have hx := B.exec
  have hb := B.bytes
  have hr := B.returns
  have hts := atoms_spec (ws := wq_X11_isSign_5) B.pre
  have hown : s.vm.findClass RX11 = some m.cls := findClass_of_methodNamed B.named
  have hlocks := B.notSynchronized
  subst hsz
  have hD := hD0.self (sz := s.heap.size)
  generalize hAe : va_A [(h0, .inr (11, mo31 fa0))] s.heap.size = A at hD ⊢
  have hA : ∀ q : Nat, s.heap.size ≤ q → A q := fun q h => by rw [← hAe]; exact Or.inr h
  have hS : va_S A s.heap s.heap [] := va_S.rf
  have hP : va_P (dC, dI) vwCl [(h0, .inr (11, mo31 fa0))] s.heap := hP
  obtain ⟨H, hH⟩ : ∃ H, H = s.heap := ⟨_, rfl⟩
  rw [← hH] at hP
  have hS : va_S A s.heap H [] := by rw [hH]; exact hS
  have hl := lv_entry ([.ref h0, .int 256]) (n := 2) (Nat.le_of_ble_eq_true rfl)
  rw [lg_entry_eq]
  generalize (lg_sl ([.ref h0, .int 256]) ++ List.replicate (2 - (lg_sl ([.ref h0, .int 256])).length) Slot.unset).toArray = ls at hl ⊢
  have hl : lv_has ls 2 [(0, .ref h0), (1, .int 256)] := hl
  refine pq_heap hH ?_
  refine lv_aload_n hx hb dX11_isSign_0 rfl (lv_at hl 0 rfl) ?_
  refine pq_ci (wr := []) (W1 := (fun u => [(h0, .inr (11, mo31 fa0))])) (va_runV (As := []) (rest := []) ⟨hx, hb, hml, hown, hts⟩ (cq_X11_good_2 l dC dI cB cI cJ cZ h0 fa0 H.size) (cwV 0 hts gq_X11_isSign_5_X11_good_2_332 rfl rfl rfl (by decide +kernel) ⟨(by decide +kernel), (by decide +kernel)⟩) ⟨pq_blind, va_recv hK hP (ci := 11) (q0 := 0) rfl rfl, pq_pre hK hP hD [0] rfl rfl⟩ rfl rfl hl.1 rfl (lv_room (Nat.le_of_ble_eq_true rfl)) dX11_isSign_1 ⟨(by decide +kernel), (by decide +kernel)⟩) hP hD hS hA [0] [] rfl rfl rfl (by decide) (fun r2 u1 H locs hw hP hD hS => ?_)
  subst hw
  have hR9 : pq_R (dC, dI) vwCl A [(h0, .inr (11, mo31 fa0))] H := ⟨hP, hD⟩
  have hP := hR9.1
  have hD := hR9.2
  refine W.widen (k := 0) (n := 0) (by decide +kernel) (by decide +kernel) ?_
  refine lv_if_eq (tgt := 37) hx hb dX11_isSign_4 (by decide) (fun _ => ?_) (fun c_ => absurd (by decide) c_)
  refine lv_iconst (v := 0) hx hb dX11_isSign_37 (by decide) ?_
  have hP9 := pq_P.pick (wc := [(h0, .inr (11, mo31 fa0))]) hP [0] rfl
  have hD9 := hD.sub (ws' := [(h0, .inr (11, mo31 fa0))]) [0] (by decide) rfl
  refine W.widen (k := 0) (n := 0) (by decide +kernel) (by decide +kernel) ?_
  exact W.zret (v := 0) hx hb hr rfl (fun t ht hW => ⟨⟨0, sq_u [] [], rfl, rfl, pq_B.of ht hP9 hD9⟩, hS.F ht⟩) hS.2.2 dX11_isSign_38
def wq_X11_isSign_6_r1 : List Cond := [Cond.code yX11_good cX11_good 1 (some .boolean), Cond.fieldLink RX11 319 "CodePressModel" "fault" "I", Cond.methodLink RX11 332 yX11_good, Cond.instanceMethod yX11_good, Cond.selects RX11 yX11_good yX11_good, Cond.initialized RX11]
def wq_X11_isSign_6 : List Cond := Cond.code yX11_isSign cX11_isSign 2 (some .boolean) :: (wq_X11_isSign_6_r1 ++ wsX110)
theorem iq_X11_isSign_6_X11 : ∀ w ∈ wsX110, w ∈ wq_X11_isSign_6 := fun _ h => List.mem_cons_of_mem _ (List.mem_append_right _ h)
set_option maxRecDepth 20000 in
theorem gq_X11_isSign_6_X11_good_2_332_0 : GoodIn wq_X11_isSign_6 (Cond.code yX11_good cX11_good 1 (some .boolean) :: wq_X11_good_2_r1) := goodIn_r _ [1, 2] (by decide +kernel) (by decide +kernel)
set_option maxRecDepth 20000 in
theorem gq_X11_isSign_6_X11_good_2_332 : GoodIn wq_X11_isSign_6 (wsV RX11 332 RX11 yX11_good wq_X11_good_2) := goodIn_app (goodIn_r _ [3, 4, 5, 6] (by decide +kernel) (by decide +kernel)) (goodIn_ca gq_X11_isSign_6_X11_good_2_332_0 (goodIn_sub iq_X11_isSign_6_X11 guX11))
set_option maxHeartbeats 4000000 in
set_option maxRecDepth 100000 in
theorem cq_X11_isSign_6 (l : Launch) (dC : Nat → ClassId) (dI : Nat → Nat → Nat) (cB cI cJ cZ : ClassId) (h0 : Nat) (fa0 : Nat → Nat) (sz : Nat) : Met l yX11_isSign wq_X11_isSign_6 ({ frames := 1, cells := 0, slots := 0, locals := 20 }) (va_Pc [.ref h0, .int 60] (pq_W (dC, dI) vwCl (tyQ cB cI cJ cZ) [(h0, .inr (11, mo31 fa0))] sz)) (va_Qi (fun (r : Int32) (_ : SQ) => r = 0) (fun u => pq_B (dC, dI) vwCl [(h0, .inr (11, mo31 fa0))] (va_A [(h0, .inr (11, mo31 fa0))] sz)) (va_A [(h0, .inr (11, mo31 fa0))] sz)) 0 0 (va_A [(h0, .inr (11, mo31 fa0))] sz) := by
  refine Met.ofW (cc := cX11_isSign) (maxL := 2) (ret := (some .boolean)) (by decide) rfl ?_
  intro p e s m args below meth c s₁ B hml hv
  obtain ⟨rfl, hsz, hP, hK, hD0⟩ := hv
  have hx := B.exec
  have hb := B.bytes
  have hr := B.returns
  have hts := atoms_spec (ws := wq_X11_isSign_6) B.pre
  have hown : s.vm.findClass RX11 = some m.cls := findClass_of_methodNamed B.named
  have hlocks := B.notSynchronized
  subst hsz
  have hD := hD0.self (sz := s.heap.size)
  generalize hAe : va_A [(h0, .inr (11, mo31 fa0))] s.heap.size = A at hD ⊢
  have hA : ∀ q : Nat, s.heap.size ≤ q → A q := fun q h => by rw [← hAe]; exact Or.inr h
  have hS : va_S A s.heap s.heap [] := va_S.rf
  have hP : va_P (dC, dI) vwCl [(h0, .inr (11, mo31 fa0))] s.heap := hP
  obtain ⟨H, hH⟩ : ∃ H, H = s.heap := ⟨_, rfl⟩
  rw [← hH] at hP
  have hS : va_S A s.heap H [] := by rw [hH]; exact hS
  have hl := lv_entry ([.ref h0, .int 60]) (n := 2) (Nat.le_of_ble_eq_true rfl)
  rw [lg_entry_eq]
  generalize (lg_sl ([.ref h0, .int 60]) ++ List.replicate (2 - (lg_sl ([.ref h0, .int 60])).length) Slot.unset).toArray = ls at hl ⊢
  have hl : lv_has ls 2 [(0, .ref h0), (1, .int 60)] := hl
  refine pq_heap hH ?_
  refine lv_aload_n hx hb dX11_isSign_0 rfl (lv_at hl 0 rfl) ?_
  refine pq_ci (wr := []) (W1 := (fun u => [(h0, .inr (11, mo31 fa0))])) (va_runV (As := []) (rest := []) ⟨hx, hb, hml, hown, hts⟩ (cq_X11_good_2 l dC dI cB cI cJ cZ h0 fa0 H.size) (cwV 0 hts gq_X11_isSign_6_X11_good_2_332 rfl rfl rfl (by decide +kernel) ⟨(by decide +kernel), (by decide +kernel)⟩) ⟨pq_blind, va_recv hK hP (ci := 11) (q0 := 0) rfl rfl, pq_pre hK hP hD [0] rfl rfl⟩ rfl rfl hl.1 rfl (lv_room (Nat.le_of_ble_eq_true rfl)) dX11_isSign_1 ⟨(by decide +kernel), (by decide +kernel)⟩) hP hD hS hA [0] [] rfl rfl rfl (by decide) (fun r2 u1 H locs hw hP hD hS => ?_)
  subst hw
  have hR9 : pq_R (dC, dI) vwCl A [(h0, .inr (11, mo31 fa0))] H := ⟨hP, hD⟩
  have hP := hR9.1
  have hD := hR9.2
  refine W.widen (k := 0) (n := 0) (by decide +kernel) (by decide +kernel) ?_
  refine lv_if_eq (tgt := 37) hx hb dX11_isSign_4 (by decide) (fun _ => ?_) (fun c_ => absurd (by decide) c_)
  refine lv_iconst (v := 0) hx hb dX11_isSign_37 (by decide) ?_
  have hP9 := pq_P.pick (wc := [(h0, .inr (11, mo31 fa0))]) hP [0] rfl
  have hD9 := hD.sub (ws' := [(h0, .inr (11, mo31 fa0))]) [0] (by decide) rfl
  refine W.widen (k := 0) (n := 0) (by decide +kernel) (by decide +kernel) ?_
  exact W.zret (v := 0) hx hb hr rfl (fun t ht hW => ⟨⟨0, sq_u [] [], rfl, rfl, pq_B.of ht hP9 hD9⟩, hS.F ht⟩) hS.2.2 dX11_isSign_38
def wq_X11_readC_r1 : List Cond := [Cond.code yX11_readS cX11_readS 6 (some .int), Cond.code yX11_readP cX11_readP 6 (some .int), Cond.code yX11_readA cX11_readA 5 (some .int), Cond.code yX11_readU cX11_readU 5 (some .int), Cond.code yX11_good cX11_good 1 (some .boolean), Cond.fieldLink RX11 319 "CodePressModel" "fault" "I", Cond.methodLink RX11 332 yX11_good, Cond.instanceMethod yX11_good, Cond.selects RX11 yX11_good yX11_good, Cond.initialized RX11, Cond.fieldLink RX11 325 "CodePressModel" "t" "I", Cond.code yX11_beginsU cX11_beginsU 1 (some .boolean), Cond.fieldLink RX11 25 "CodePressModel" "sort" "[I", Cond.methodLink RX11 423 yX11_beginsU, Cond.instanceMethod yX11_beginsU, Cond.selects RX11 yX11_beginsU yX11_beginsU, Cond.code yX11_failsHere cX11_failsHere 2 none, Cond.fieldLink RX11 28 "CodePressModel" "at" "[I", Cond.code yX11_fails cX11_fails 3 none, Cond.fieldLink RX11 322 "CodePressModel" "place" "I", Cond.methodLink RX11 328 yX11_fails, Cond.instanceMethod yX11_fails, Cond.selects RX11 yX11_fails yX11_fails, Cond.methodLink RX11 336 yX11_failsHere]
def wq_X11_readC_r2 : List Cond := [Cond.instanceMethod yX11_failsHere, Cond.selects RX11 yX11_failsHere yX11_failsHere, Cond.methodLink RX11 420 yX11_readU, Cond.instanceMethod yX11_readU, Cond.selects RX11 yX11_readU yX11_readU, Cond.fieldLink RX11 385 "CodePressModel" "from" "I", Cond.methodLink RX11 417 yX11_readA, Cond.instanceMethod yX11_readA, Cond.selects RX11 yX11_readA yX11_readA, Cond.code yX11_isSign cX11_isSign 2 (some .boolean), Cond.methodLink RX11 348 yX11_isSign, Cond.instanceMethod yX11_isSign, Cond.selects RX11 yX11_isSign yX11_isSign, Cond.methodLink RX11 414 yX11_readP, Cond.instanceMethod yX11_readP, Cond.selects RX11 yX11_readP yX11_readP, Cond.methodLink RX11 407 yX11_readS, Cond.instanceMethod yX11_readS, Cond.selects RX11 yX11_readS yX11_readS]
def wq_X11_readC : List Cond := Cond.code yX11_readC cX11_readC 6 (some .int) :: ((wq_X11_readC_r1 ++ wq_X11_readC_r2) ++ wsX110)
theorem iq_X11_readC_X11 : ∀ w ∈ wsX110, w ∈ wq_X11_readC := fun _ h => List.mem_cons_of_mem _ (List.mem_append_right _ h)
set_option maxRecDepth 20000 in
theorem gq_X11_readC_X11_readS_407_0 : GoodIn wq_X11_readC (Cond.code yX11_readS cX11_readS 6 (some .int) :: (wq_X11_readS_r1 ++ wq_X11_readS_r2)) := goodIn_r _ [1, 2, 3, 4, 5, 6, 7, 8, 9, 10, 11, 12, 13, 14, 15, 16, 17, 18, 19, 20, 21, 22, 23, 24, 25, 26, 27, 28, 29, 30, 31, 32, 33, 34, 35, 36, 37, 38, 39, 40] (by decide +kernel) (by decide +kernel)
set_option maxRecDepth 20000 in
theorem gq_X11_readC_X11_readS_407 : GoodIn wq_X11_readC (wsV RX11 407 RX11 yX11_readS wq_X11_readS) := goodIn_app (goodIn_r _ [41, 42, 43, 10] (by decide +kernel) (by decide +kernel)) (goodIn_ca gq_X11_readC_X11_readS_407_0 (goodIn_sub iq_X11_readC_X11 guX11))
set_option maxRecDepth 20000 in
theorem gq_X11_readC_X11_isSign_5_348_0 : GoodIn wq_X11_readC (Cond.code yX11_isSign cX11_isSign 2 (some .boolean) :: wq_X11_isSign_5_r1) := goodIn_r _ [34, 5, 6, 7, 8, 9, 10] (by decide +kernel) (by decide +kernel)
set_option maxRecDepth 20000 in
theorem gq_X11_readC_X11_isSign_5_348 : GoodIn wq_X11_readC (wsV RX11 348 RX11 yX11_isSign wq_X11_isSign_5) := goodIn_app (goodIn_r _ [35, 36, 37, 10] (by decide +kernel) (by decide +kernel)) (goodIn_ca gq_X11_readC_X11_isSign_5_348_0 (goodIn_sub iq_X11_readC_X11 guX11))
set_option maxRecDepth 20000 in
theorem gq_X11_readC_X11_isSign_6_348_0 : GoodIn wq_X11_readC (Cond.code yX11_isSign cX11_isSign 2 (some .boolean) :: wq_X11_isSign_6_r1) := goodIn_r _ [34, 5, 6, 7, 8, 9, 10] (by decide +kernel) (by decide +kernel)
set_option maxRecDepth 20000 in
theorem gq_X11_readC_X11_isSign_6_348 : GoodIn wq_X11_readC (wsV RX11 348 RX11 yX11_isSign wq_X11_isSign_6) := goodIn_app (goodIn_r _ [35, 36, 37, 10] (by decide +kernel) (by decide +kernel)) (goodIn_ca gq_X11_readC_X11_isSign_6_348_0 (goodIn_sub iq_X11_readC_X11 guX11))
set_option maxHeartbeats 4000000 in
set_option maxRecDepth 100000 in
theorem cq_X11_readC (l : Launch) (dC : Nat → ClassId) (dI : Nat → Nat → Nat) (cB cI cJ cZ : ClassId) (h0 : Nat) (fa0 : Nat → Nat) (sz : Nat) : Met l yX11_readC wq_X11_readC ({ frames := 6, cells := 0, slots := 0, locals := 141 }) (va_Pc [.ref h0] (pq_W (dC, dI) vwCl (tyQ cB cI cJ cZ) [(h0, .inr (11, mo30 fa0)), ((fa0 2), .inl (cI, 3002, .inl (upd (fun _ => 0) 0 0))), ((fa0 3), .inl (cI, 3002, .inl (upd (fun _ => 0) 0 0)))] sz)) (va_Qi (fun (r : Int32) (_ : SQ) => r = (-1)) (fun u => pq_B (dC, dI) vwCl [((fa0 2), .inl (cI, 3002, .inl (upd (fun _ => 0) 0 0))), ((fa0 3), .inl (cI, 3002, .inl (upd (fun _ => 0) 0 0))), (h0, .inr (11, mo31 fa0))] (va_A [(h0, .inr (11, mo30 fa0)), ((fa0 2), .inl (cI, 3002, .inl (upd (fun _ => 0) 0 0))), ((fa0 3), .inl (cI, 3002, .inl (upd (fun _ => 0) 0 0)))] sz)) (va_A [(h0, .inr (11, mo30 fa0)), ((fa0 2), .inl (cI, 3002, .inl (upd (fun _ => 0) 0 0))), ((fa0 3), .inl (cI, 3002, .inl (upd (fun _ => 0) 0 0)))] sz)) 0 0 (va_A [(h0, .inr (11, mo30 fa0)), ((fa0 2), .inl (cI, 3002, .inl (upd (fun _ => 0) 0 0))), ((fa0 3), .inl (cI, 3002, .inl (upd (fun _ => 0) 0 0)))] sz) := by
  refine Met.ofW (cc := cX11_readC) (maxL := 6) (ret := (some .int)) (by decide) rfl ?_
  intro p e s m args below meth c s₁ B hml hv
  obtain ⟨rfl, hsz, hP, hK, hD0⟩ := hv
  have hx := B.exec
  have hb := B.bytes
  have hr := B.returns
  have hts := atoms_spec (ws := wq_X11_readC) B.pre
  have hown : s.vm.findClass RX11 = some m.cls := findClass_of_methodNamed B.named
  have hlocks := B.notSynchronized
  subst hsz
  have hD := hD0.self (sz := s.heap.size)
  generalize hAe : va_A [(h0, .inr (11, mo30 fa0)), ((fa0 2), .inl (cI, 3002, .inl (upd (fun _ => 0) 0 0))), ((fa0 3), .inl (cI, 3002, .inl (upd (fun _ => 0) 0 0)))] s.heap.size = A at hD ⊢
  have hA : ∀ q : Nat, s.heap.size ≤ q → A q := fun q h => by rw [← hAe]; exact Or.inr h
  have hS : va_S A s.heap s.heap [] := va_S.rf
  have hP : va_P (dC, dI) vwCl [(h0, .inr (11, mo30 fa0)), ((fa0 2), .inl (cI, 3002, .inl (upd (fun _ => 0) 0 0))), ((fa0 3), .inl (cI, 3002, .inl (upd (fun _ => 0) 0 0)))] s.heap := hP
  obtain ⟨H, hH⟩ : ∃ H, H = s.heap := ⟨_, rfl⟩
  rw [← hH] at hP
  have hS : va_S A s.heap H [] := by rw [hH]; exact hS
  have hl := lv_entry ([.ref h0]) (n := 6) (Nat.le_of_ble_eq_true rfl)
  rw [lg_entry_eq]
  generalize (lg_sl ([.ref h0]) ++ List.replicate (6 - (lg_sl ([.ref h0])).length) Slot.unset).toArray = ls at hl ⊢
  have hl : lv_has ls 6 [(0, .ref h0)] := hl
  refine pq_heap hH ?_
  refine lv_aload_n hx hb dX11_readC_0 rfl (lv_at hl 0 rfl) ?_
  refine pq_ci (wr := []) (W1 := (fun u => [((fa0 2), .inl (cI, 3002, .inl (upd (fun _ => 0) 0 0))), ((fa0 3), .inl (cI, 3002, .inl (upd (fun _ => 0) 0 0))), (h0, .inr (11, mo31 fa0))])) (va_runV (As := []) (rest := []) ⟨hx, hb, hml, hown, hts⟩ (cq_X11_readS l dC dI cB cI cJ cZ h0 fa0 H.size) (cwV 0 hts gq_X11_readC_X11_readS_407 rfl rfl rfl (by decide +kernel) ⟨(by decide +kernel), (by decide +kernel)⟩) ⟨pq_blind, va_recv hK hP (ci := 11) (q0 := 0) rfl rfl, pq_pre hK hP hD [0, 1, 2] rfl rfl⟩ rfl rfl hl.1 rfl (lv_room (Nat.le_of_ble_eq_true rfl)) dX11_readC_1 ⟨(by decide +kernel), (by decide +kernel)⟩) hP hD hS hA [0, 1, 2] [] rfl rfl rfl (by decide) (fun r2 u1 H locs hw hP hD hS => ?_)
  subst hw
  have hR9 : pq_R (dC, dI) vwCl A [((fa0 2), .inl (cI, 3002, .inl (upd (fun _ => 0) 0 0))), ((fa0 3), .inl (cI, 3002, .inl (upd (fun _ => 0) 0 0))), (h0, .inr (11, mo31 fa0))] H := ⟨hP, hD⟩
  have hP := hR9.1
  have hD := hR9.2
  refine W.widen (k := 0) (n := 0) (by decide +kernel) (by decide +kernel) ?_
  refine lv_istore_n (lv' := [(1, .int (-1)), (0, .ref h0)]) hx hb dX11_readC_4 rfl hl (by decide) rfl (fun ls hl => ?_)
  refine lv_aload_n hx hb dX11_readC_5 rfl (lv_at hl 1 rfl) ?_
  refine va_get (D := (dC, dI)) (ci := 11) (v := .int 0) (C := RX11) (T := TX11) (N := 122) hx hb hts iq_X11_readC_X11 hown hK hP 2 rfl rfl 45 (by decide) (hts (Cond.fieldLink RX11 385 "CodePressModel" "from" "I") (List.mem_of_getElem? (i := 30) rfl)) (fun _ h9 => h9) rfl dX11_readC_6 ?_
  refine lv_istore_n (lv' := [(2, .int 0), (1, .int (-1)), (0, .ref h0)]) hx hb dX11_readC_9 rfl hl (by decide) rfl (fun ls hl => ?_)
  refine lv_aload_n hx hb dX11_readC_10 rfl (lv_at hl 2 rfl) ?_
  refine lv_sipush (v := 256) hx hb dX11_readC_11 (by decide) ?_
  refine pq_ci (wr := [((fa0 2), .inl (cI, 3002, .inl (upd (fun _ => 0) 0 0))), ((fa0 3), .inl (cI, 3002, .inl (upd (fun _ => 0) 0 0)))]) (W1 := (fun u => [(h0, .inr (11, mo31 fa0))])) (va_runV (As := [.int 256]) (rest := []) ⟨hx, hb, hml, hown, hts⟩ (cq_X11_isSign_5 l dC dI cB cI cJ cZ h0 fa0 H.size) (cwV 1 hts gq_X11_readC_X11_isSign_5_348 rfl rfl rfl (by decide +kernel) ⟨(by decide +kernel), (by decide +kernel)⟩) ⟨pq_blind, va_recv hK hP (ci := 11) (q0 := 2) rfl rfl, pq_pre hK hP hD [2] rfl rfl⟩ rfl rfl hl.1 rfl (lv_room (Nat.le_of_ble_eq_true rfl)) dX11_readC_14 ⟨(by decide +kernel), (by decide +kernel)⟩) hP hD hS hA [2] [0, 1] rfl rfl rfl (by decide) (fun r4 u3 H locs hw hP hD hS => ?_)
  subst hw
  have hR9 : pq_R (dC, dI) vwCl A [((fa0 2), .inl (cI, 3002, .inl (upd (fun _ => 0) 0 0))), ((fa0 3), .inl (cI, 3002, .inl (upd (fun _ => 0) 0 0))), (h0, .inr (11, mo31 fa0))] H := ⟨hP, hD⟩
  have hP := hR9.1
  have hD := hR9.2
  refine W.widen (k := 0) (n := 0) (by decide +kernel) (by decide +kernel) ?_
  refine lv_if_ne (tgt := 31) hx hb dX11_readC_17 (by decide) (fun c_ => absurd (by decide) c_) (fun _ => ?_)
  refine lv_aload_n hx hb dX11_readC_20 rfl (lv_at hl 2 rfl) ?_
  refine lv_bipush (v := 60) hx hb dX11_readC_21 (by decide) ?_
  refine pq_ci (wr := [((fa0 2), .inl (cI, 3002, .inl (upd (fun _ => 0) 0 0))), ((fa0 3), .inl (cI, 3002, .inl (upd (fun _ => 0) 0 0)))]) (W1 := (fun u => [(h0, .inr (11, mo31 fa0))])) (va_runV (As := [.int 60]) (rest := []) ⟨hx, hb, hml, hown, hts⟩ (cq_X11_isSign_6 l dC dI cB cI cJ cZ h0 fa0 H.size) (cwV 1 hts gq_X11_readC_X11_isSign_6_348 rfl rfl rfl (by decide +kernel) ⟨(by decide +kernel), (by decide +kernel)⟩) ⟨pq_blind, va_recv hK hP (ci := 11) (q0 := 2) rfl rfl, pq_pre hK hP hD [2] rfl rfl⟩ rfl rfl hl.1 rfl (lv_room (Nat.le_of_ble_eq_true rfl)) dX11_readC_23 ⟨(by decide +kernel), (by decide +kernel)⟩) hP hD hS hA [2] [0, 1] rfl rfl rfl (by decide) (fun r6 u5 H locs hw hP hD hS => ?_)
  subst hw
  have hR9 : pq_R (dC, dI) vwCl A [((fa0 2), .inl (cI, 3002, .inl (upd (fun _ => 0) 0 0))), ((fa0 3), .inl (cI, 3002, .inl (upd (fun _ => 0) 0 0))), (h0, .inr (11, mo31 fa0))] H := ⟨hP, hD⟩
  have hP := hR9.1
  have hD := hR9.2
  refine W.widen (k := 0) (n := 0) (by decide +kernel) (by decide +kernel) ?_
  refine lv_if_ne (tgt := 31) hx hb dX11_readC_26 (by decide) (fun c_ => absurd (by decide) c_) (fun _ => ?_)
  refine lv_iload_n hx hb dX11_readC_29 rfl (lv_at hl 1 rfl) ?_
  have hP9 := pq_P.pick (wc := [((fa0 2), .inl (cI, 3002, .inl (upd (fun _ => 0) 0 0))), ((fa0 3), .inl (cI, 3002, .inl (upd (fun _ => 0) 0 0))), (h0, .inr (11, mo31 fa0))]) hP [0, 1, 2] rfl
  have hD9 := hD.sub (ws' := [((fa0 2), .inl (cI, 3002, .inl (upd (fun _ => 0) 0 0))), ((fa0 3), .inl (cI, 3002, .inl (upd (fun _ => 0) 0 0))), (h0, .inr (11, mo31 fa0))]) [0, 1, 2] (by decide) rfl
  refine W.widen (k := 0) (n := 0) (by decide +kernel) (by decide +kernel) ?_
  exact W.iret (v := (-1)) hx hb hr (fun t ht hW => ⟨⟨(-1), sq_u [] [], rfl, rfl, pq_B.of ht hP9 hD9⟩, hS.F ht⟩) hS.2.2 dX11_readC_30
