def wq_X11_readE_r1 : List Cond := [Cond.code yX11_good cX11_good 1 (some .boolean), Cond.fieldLink RX11 319 "CodePressModel" "fault" "I", Cond.methodLink RX11 332 yX11_good, Cond.instanceMethod yX11_good, Cond.selects RX11 yX11_good yX11_good, Cond.initialized RX11, Cond.fieldLink RX11 325 "CodePressModel" "t" "I", Cond.code yX11_isWord cX11_isWord 2 (some .boolean), Cond.fieldLink RX11 25 "CodePressModel" "sort" "[I", Cond.methodLink RX11 357 yX11_isWord, Cond.instanceMethod yX11_isWord, Cond.selects RX11 yX11_isWord yX11_isWord, Cond.code yX11_readC cX11_readC 6 (some .int), Cond.code yX11_readS cX11_readS 6 (some .int), Cond.code yX11_readP cX11_readP 6 (some .int), Cond.code yX11_readA cX11_readA 5 (some .int), Cond.code yX11_readU cX11_readU 5 (some .int), Cond.code yX11_beginsU cX11_beginsU 1 (some .boolean), Cond.methodLink RX11 423 yX11_beginsU, Cond.instanceMethod yX11_beginsU, Cond.selects RX11 yX11_beginsU yX11_beginsU, Cond.code yX11_failsHere cX11_failsHere 2 none, Cond.fieldLink RX11 28 "CodePressModel" "at" "[I", Cond.code yX11_fails cX11_fails 3 none]
def wq_X11_readE_r2 : List Cond := [Cond.fieldLink RX11 322 "CodePressModel" "place" "I", Cond.methodLink RX11 328 yX11_fails, Cond.instanceMethod yX11_fails, Cond.selects RX11 yX11_fails yX11_fails, Cond.methodLink RX11 336 yX11_failsHere, Cond.instanceMethod yX11_failsHere, Cond.selects RX11 yX11_failsHere yX11_failsHere, Cond.methodLink RX11 420 yX11_readU, Cond.instanceMethod yX11_readU, Cond.selects RX11 yX11_readU yX11_readU, Cond.fieldLink RX11 385 "CodePressModel" "from" "I", Cond.methodLink RX11 417 yX11_readA, Cond.instanceMethod yX11_readA, Cond.selects RX11 yX11_readA yX11_readA, Cond.code yX11_isSign cX11_isSign 2 (some .boolean), Cond.methodLink RX11 348 yX11_isSign, Cond.instanceMethod yX11_isSign, Cond.selects RX11 yX11_isSign yX11_isSign, Cond.methodLink RX11 414 yX11_readP, Cond.instanceMethod yX11_readP, Cond.selects RX11 yX11_readP yX11_readP, Cond.methodLink RX11 407 yX11_readS, Cond.instanceMethod yX11_readS, Cond.selects RX11 yX11_readS yX11_readS]
def wq_X11_readE_r3 : List Cond := [Cond.methodLink RX11 382 yX11_readC, Cond.instanceMethod yX11_readC, Cond.selects RX11 yX11_readC yX11_readC]
def wq_X11_readE : List Cond := Cond.code yX11_readE cX11_readE 3 (some .int) :: ((wq_X11_readE_r1 ++ (wq_X11_readE_r2 ++ wq_X11_readE_r3)) ++ wsX110)
theorem iq_X11_readE_X11 : ∀ w ∈ wsX110, w ∈ wq_X11_readE := fun _ h => List.mem_cons_of_mem _ (List.mem_append_right _ h)
set_option maxRecDepth 20000 in
theorem gq_X11_readE_X11_good_1_332_0 : GoodIn wq_X11_readE (Cond.code yX11_good cX11_good 1 (some .boolean) :: wq_X11_good_1_r1) := goodIn_r _ [1, 2] (by decide +kernel) (by decide +kernel)
set_option maxRecDepth 20000 in
theorem gq_X11_readE_X11_good_1_332 : GoodIn wq_X11_readE (wsV RX11 332 RX11 yX11_good wq_X11_good_1) := goodIn_app (goodIn_r _ [3, 4, 5, 6] (by decide +kernel) (by decide +kernel)) (goodIn_ca gq_X11_readE_X11_good_1_332_0 (goodIn_sub iq_X11_readE_X11 guX11))
set_option maxRecDepth 20000 in
theorem gq_X11_readE_X11_isWord_357_0 : GoodIn wq_X11_readE (Cond.code yX11_isWord cX11_isWord 2 (some .boolean) :: wq_X11_isWord_r1) := goodIn_r _ [8, 1, 2, 3, 4, 5, 6, 9, 7] (by decide +kernel) (by decide +kernel)
set_option maxRecDepth 20000 in
theorem gq_X11_readE_X11_isWord_357 : GoodIn wq_X11_readE (wsV RX11 357 RX11 yX11_isWord wq_X11_isWord) := goodIn_app (goodIn_r _ [10, 11, 12, 6] (by decide +kernel) (by decide +kernel)) (goodIn_ca gq_X11_readE_X11_isWord_357_0 (goodIn_sub iq_X11_readE_X11 guX11))
set_option maxRecDepth 20000 in
theorem gq_X11_readE_X11_isWord_1_357_0 : GoodIn wq_X11_readE (Cond.code yX11_isWord cX11_isWord 2 (some .boolean) :: wq_X11_isWord_1_r1) := goodIn_r _ [8, 1, 2, 3, 4, 5, 6, 9, 7] (by decide +kernel) (by decide +kernel)
set_option maxRecDepth 20000 in
theorem gq_X11_readE_X11_isWord_1_357 : GoodIn wq_X11_readE (wsV RX11 357 RX11 yX11_isWord wq_X11_isWord_1) := goodIn_app (goodIn_r _ [10, 11, 12, 6] (by decide +kernel) (by decide +kernel)) (goodIn_ca gq_X11_readE_X11_isWord_1_357_0 (goodIn_sub iq_X11_readE_X11 guX11))
set_option maxRecDepth 20000 in
theorem gq_X11_readE_X11_isWord_2_357_0 : GoodIn wq_X11_readE (Cond.code yX11_isWord cX11_isWord 2 (some .boolean) :: wq_X11_isWord_2_r1) := goodIn_r _ [8, 1, 2, 3, 4, 5, 6, 9, 7] (by decide +kernel) (by decide +kernel)
set_option maxRecDepth 20000 in
theorem gq_X11_readE_X11_isWord_2_357 : GoodIn wq_X11_readE (wsV RX11 357 RX11 yX11_isWord wq_X11_isWord_2) := goodIn_app (goodIn_r _ [10, 11, 12, 6] (by decide +kernel) (by decide +kernel)) (goodIn_ca gq_X11_readE_X11_isWord_2_357_0 (goodIn_sub iq_X11_readE_X11 guX11))
set_option maxRecDepth 20000 in
theorem gq_X11_readE_X11_isWord_3_357_0 : GoodIn wq_X11_readE (Cond.code yX11_isWord cX11_isWord 2 (some .boolean) :: wq_X11_isWord_3_r1) := goodIn_r _ [8, 1, 2, 3, 4, 5, 6, 9, 7] (by decide +kernel) (by decide +kernel)
set_option maxRecDepth 20000 in
theorem gq_X11_readE_X11_isWord_3_357 : GoodIn wq_X11_readE (wsV RX11 357 RX11 yX11_isWord wq_X11_isWord_3) := goodIn_app (goodIn_r _ [10, 11, 12, 6] (by decide +kernel) (by decide +kernel)) (goodIn_ca gq_X11_readE_X11_isWord_3_357_0 (goodIn_sub iq_X11_readE_X11 guX11))
set_option maxRecDepth 20000 in
theorem gq_X11_readE_X11_isWord_4_357_0 : GoodIn wq_X11_readE (Cond.code yX11_isWord cX11_isWord 2 (some .boolean) :: wq_X11_isWord_4_r1) := goodIn_r _ [8, 1, 2, 3, 4, 5, 6, 9, 7] (by decide +kernel) (by decide +kernel)
set_option maxRecDepth 20000 in
theorem gq_X11_readE_X11_isWord_4_357 : GoodIn wq_X11_readE (wsV RX11 357 RX11 yX11_isWord wq_X11_isWord_4) := goodIn_app (goodIn_r _ [10, 11, 12, 6] (by decide +kernel) (by decide +kernel)) (goodIn_ca gq_X11_readE_X11_isWord_4_357_0 (goodIn_sub iq_X11_readE_X11 guX11))
set_option maxRecDepth 20000 in
theorem gq_X11_readE_X11_readC_382_0 : GoodIn wq_X11_readE (Cond.code yX11_readC cX11_readC 6 (some .int) :: (wq_X11_readC_r1 ++ wq_X11_readC_r2)) := goodIn_r _ [13, 14, 15, 16, 17, 1, 2, 3, 4, 5, 6, 7, 18, 9, 19, 20, 21, 22, 23, 24, 25, 26, 27, 28, 29, 30, 31, 32, 33, 34, 35, 36, 37, 38, 39, 40, 41, 42, 43, 44, 45, 46, 47, 48] (by decide +kernel) (by decide +kernel)
set_option maxRecDepth 20000 in
theorem gq_X11_readE_X11_readC_382 : GoodIn wq_X11_readE (wsV RX11 382 RX11 yX11_readC wq_X11_readC) := goodIn_app (goodIn_r _ [49, 50, 51, 6] (by decide +kernel) (by decide +kernel)) (goodIn_ca gq_X11_readE_X11_readC_382_0 (goodIn_sub iq_X11_readE_X11 guX11))
set_option maxHeartbeats 4000000 in
set_option maxRecDepth 100000 in
theorem cq_X11_readE (l : Launch) (dC : Nat → ClassId) (dI : Nat → Nat → Nat) (cB cI cJ cZ : ClassId) (h0 : Nat) (fa0 : Nat → Nat) (sz : Nat) : Met l yX11_readE wq_X11_readE ({ frames := 7, cells := 0, slots := 0, locals := 166 }) (va_Pc [.ref h0] (pq_W (dC, dI) vwCl (tyQ cB cI cJ cZ) [(h0, .inr (11, mo30 fa0)), ((fa0 2), .inl (cI, 3002, .inl (upd (fun _ => 0) 0 0))), ((fa0 3), .inl (cI, 3002, .inl (upd (fun _ => 0) 0 0)))] sz)) (va_Qi (fun (r : Int32) (_ : SQ) => r = (-1)) (fun u => pq_B (dC, dI) vwCl [((fa0 2), .inl (cI, 3002, .inl (upd (fun _ => 0) 0 0))), ((fa0 3), .inl (cI, 3002, .inl (upd (fun _ => 0) 0 0))), (h0, .inr (11, mo31 fa0))] (va_A [(h0, .inr (11, mo30 fa0)), ((fa0 2), .inl (cI, 3002, .inl (upd (fun _ => 0) 0 0))), ((fa0 3), .inl (cI, 3002, .inl (upd (fun _ => 0) 0 0)))] sz)) (va_A [(h0, .inr (11, mo30 fa0)), ((fa0 2), .inl (cI, 3002, .inl (upd (fun _ => 0) 0 0))), ((fa0 3), .inl (cI, 3002, .inl (upd (fun _ => 0) 0 0)))] sz)) 0 0 (va_A [(h0, .inr (11, mo30 fa0)), ((fa0 2), .inl (cI, 3002, .inl (upd (fun _ => 0) 0 0))), ((fa0 3), .inl (cI, 3002, .inl (upd (fun _ => 0) 0 0)))] sz) := by
  refine Met.ofW (cc := cX11_readE) (maxL := 3) (ret := (some .int)) (by decide) rfl ?_
  intro p e s m args below meth c s₁ B hml hv
  obtain ⟨rfl, hsz, hP, hK, hD0⟩ := hv
  have hx := B.exec
  have hb := B.bytes
  have hr := B.returns
  have hts := atoms_spec (ws := wq_X11_readE) B.pre
  have hown : s.vm.findClass RX11 = some m.cls := findClass_of_methodNamed B.named
  have hlocks := B.notSynchronized
  subst hsz
  have hD := hD0.self (sz := s.heap.size)
  generalize hAe : va_A [(h0, .inr (11, mo30 fa0)), ((fa0 2), .inl (cI, 3002, .inl (upd (fun _ => 0) 0 0))), ((fa0 3), .inl (cI, 3002, .inl (upd (fun _ => 0) 0 0)))] s.heap.size = A at hD ⊢
  have hA : ∀ q : Nat, s.heap.size ≤ q → A q := fun q h => by rw [← hAe]; exact Or.inr h
  have hS : va_S A s.heap s.heap [] := va_S.rf
  have hP : va_P (dC, dI) vwCl [(h0, .inr (11, mo30 fa0)), ((fa0 2), .inl (cI, 3002, .inl (upd (fun _ => 0) 0 0))), ((fa0 3), .inl (cI, 3002, .inl (upd (fun _ => 0) 0 0)))] s.heap := hP
  obtain ⟨H, hH⟩ : ∃ H, H = s.heap := ⟨_, rfl⟩
  rw [← hH] at hP
  have hS : va_S A s.heap H [] := by rw [hH]; exact hS
  have hl := lv_entry ([.ref h0]) (n := 3) (Nat.le_of_ble_eq_true rfl)
  rw [lg_entry_eq]
  generalize (lg_sl ([.ref h0]) ++ List.replicate (3 - (lg_sl ([.ref h0])).length) Slot.unset).toArray = ls at hl ⊢
  have hl : lv_has ls 3 [(0, .ref h0)] := hl
  refine pq_heap hH ?_
  refine lv_aload_n hx hb dX11_readE_0 rfl (lv_at hl 0 rfl) ?_
  refine pq_ci (wr := [((fa0 2), .inl (cI, 3002, .inl (upd (fun _ => 0) 0 0))), ((fa0 3), .inl (cI, 3002, .inl (upd (fun _ => 0) 0 0)))]) (W1 := (fun u => [(h0, .inr (11, mo30 fa0))])) (va_runV (As := []) (rest := []) ⟨hx, hb, hml, hown, hts⟩ (cq_X11_good_1 l dC dI cB cI cJ cZ h0 fa0 H.size) (cwV 0 hts gq_X11_readE_X11_good_1_332 rfl rfl rfl (by decide +kernel) ⟨(by decide +kernel), (by decide +kernel)⟩) ⟨pq_blind, va_recv hK hP (ci := 11) (q0 := 0) rfl rfl, pq_pre hK hP hD [0] rfl rfl⟩ rfl rfl hl.1 rfl (lv_room (Nat.le_of_ble_eq_true rfl)) dX11_readE_1 ⟨(by decide +kernel), (by decide +kernel)⟩) hP hD hS hA [0] [1, 2] rfl rfl rfl (by decide) (fun r2 u1 H locs hw hP hD hS => ?_)
  subst hw
  have hR9 : pq_R (dC, dI) vwCl A [((fa0 2), .inl (cI, 3002, .inl (upd (fun _ => 0) 0 0))), ((fa0 3), .inl (cI, 3002, .inl (upd (fun _ => 0) 0 0))), (h0, .inr (11, mo30 fa0))] H := ⟨hP, hD⟩
  have hP := hR9.1
  have hD := hR9.2
  refine W.widen (k := 0) (n := 0) (by decide +kernel) (by decide +kernel) ?_
  refine lv_if_ne (tgt := 9) hx hb dX11_readE_4 (by decide) (fun _ => ?_) (fun c_ => absurd c_ (by decide))
  refine lv_aload_n hx hb dX11_readE_9 rfl (lv_at hl 0 rfl) ?_
  refine va_get (D := (dC, dI)) (ci := 11) (v := .int 0) (C := RX11) (T := TX11) (N := 122) hx hb hts iq_X11_readE_X11 hown hK hP 2 rfl rfl 38 (by decide) (hts (Cond.fieldLink RX11 325 "CodePressModel" "t" "I") (List.mem_of_getElem? (i := 7) rfl)) (fun _ h9 => h9) rfl dX11_readE_10 ?_
  refine lv_istore_n (lv' := [(1, .int 0), (0, .ref h0)]) hx hb dX11_readE_13 rfl hl (by decide) rfl (fun ls hl => ?_)
  refine lv_aload_n hx hb dX11_readE_14 rfl (lv_at hl 1 rfl) ?_
  refine lv_iconst (v := 1) hx hb dX11_readE_15 (by decide) ?_
  refine pq_ci (wr := [((fa0 3), .inl (cI, 3002, .inl (upd (fun _ => 0) 0 0)))]) (W1 := (fun u => [((fa0 2), .inl (cI, 3002, .inl (upd (fun _ => 0) 0 0))), (h0, .inr (11, mo30 fa0))])) (va_runV (As := [.int 1]) (rest := []) ⟨hx, hb, hml, hown, hts⟩ (cq_X11_isWord l dC dI cB cI cJ cZ h0 fa0 H.size) (cwV 1 hts gq_X11_readE_X11_isWord_357 rfl rfl rfl (by decide +kernel) ⟨(by decide +kernel), (by decide +kernel)⟩) ⟨pq_blind, va_recv hK hP (ci := 11) (q0 := 2) rfl rfl, pq_pre hK hP hD [2, 0] rfl rfl⟩ rfl rfl hl.1 rfl (lv_room (Nat.le_of_ble_eq_true rfl)) dX11_readE_16 ⟨(by decide +kernel), (by decide +kernel)⟩) hP hD hS hA [2, 0] [1] rfl rfl rfl (by decide) (fun r4 u3 H locs hw hP hD hS => ?_)
  subst hw
  have hR9 : pq_R (dC, dI) vwCl A [((fa0 3), .inl (cI, 3002, .inl (upd (fun _ => 0) 0 0))), ((fa0 2), .inl (cI, 3002, .inl (upd (fun _ => 0) 0 0))), (h0, .inr (11, mo30 fa0))] H := ⟨hP, hD⟩
  have hP := hR9.1
  have hD := hR9.2
  refine W.widen (k := 0) (n := 0) (by decide +kernel) (by decide +kernel) ?_
  refine lv_if_eq (tgt := 31) hx hb dX11_readE_19 (by decide) (fun _ => ?_) (fun c_ => absurd (by decide) c_)
  refine lv_aload_n hx hb dX11_readE_31 rfl (lv_at hl 1 rfl) ?_
  refine lv_iconst (v := 2) hx hb dX11_readE_32 (by decide) ?_
  refine pq_ci (wr := [((fa0 3), .inl (cI, 3002, .inl (upd (fun _ => 0) 0 0)))]) (W1 := (fun u => [((fa0 2), .inl (cI, 3002, .inl (upd (fun _ => 0) 0 0))), (h0, .inr (11, mo30 fa0))])) (va_runV (As := [.int 2]) (rest := []) ⟨hx, hb, hml, hown, hts⟩ (cq_X11_isWord_1 l dC dI cB cI cJ cZ h0 fa0 H.size) (cwV 1 hts gq_X11_readE_X11_isWord_1_357 rfl rfl rfl (by decide +kernel) ⟨(by decide +kernel), (by decide +kernel)⟩) ⟨pq_blind, va_recv hK hP (ci := 11) (q0 := 2) rfl rfl, pq_pre hK hP hD [2, 1] rfl rfl⟩ rfl rfl hl.1 rfl (lv_room (Nat.le_of_ble_eq_true rfl)) dX11_readE_33 ⟨(by decide +kernel), (by decide +kernel)⟩) hP hD hS hA [2, 1] [0] rfl rfl rfl (by decide) (fun r6 u5 H locs hw hP hD hS => ?_)
  subst hw
  have hR9 : pq_R (dC, dI) vwCl A [((fa0 3), .inl (cI, 3002, .inl (upd (fun _ => 0) 0 0))), ((fa0 2), .inl (cI, 3002, .inl (upd (fun _ => 0) 0 0))), (h0, .inr (11, mo30 fa0))] H := ⟨hP, hD⟩
  have hP := hR9.1
  have hD := hR9.2
  refine W.widen (k := 0) (n := 0) (by decide +kernel) (by decide +kernel) ?_
  refine lv_if_eq (tgt := 48) hx hb dX11_readE_36 (by decide) (fun _ => ?_) (fun c_ => absurd (by decide) c_)
  refine lv_aload_n hx hb dX11_readE_48 rfl (lv_at hl 1 rfl) ?_
  refine lv_iconst (v := 3) hx hb dX11_readE_49 (by decide) ?_
  refine pq_ci (wr := [((fa0 3), .inl (cI, 3002, .inl (upd (fun _ => 0) 0 0)))]) (W1 := (fun u => [((fa0 2), .inl (cI, 3002, .inl (upd (fun _ => 0) 0 0))), (h0, .inr (11, mo30 fa0))])) (va_runV (As := [.int 3]) (rest := []) ⟨hx, hb, hml, hown, hts⟩ (cq_X11_isWord_2 l dC dI cB cI cJ cZ h0 fa0 H.size) (cwV 1 hts gq_X11_readE_X11_isWord_2_357 rfl rfl rfl (by decide +kernel) ⟨(by decide +kernel), (by decide +kernel)⟩) ⟨pq_blind, va_recv hK hP (ci := 11) (q0 := 2) rfl rfl, pq_pre hK hP hD [2, 1] rfl rfl⟩ rfl rfl hl.1 rfl (lv_room (Nat.le_of_ble_eq_true rfl)) dX11_readE_50 ⟨(by decide +kernel), (by decide +kernel)⟩) hP hD hS hA [2, 1] [0] rfl rfl rfl (by decide) (fun r8 u7 H locs hw hP hD hS => ?_)
  subst hw
  have hR9 : pq_R (dC, dI) vwCl A [((fa0 3), .inl (cI, 3002, .inl (upd (fun _ => 0) 0 0))), ((fa0 2), .inl (cI, 3002, .inl (upd (fun _ => 0) 0 0))), (h0, .inr (11, mo30 fa0))] H := ⟨hP, hD⟩
  have hP := hR9.1
  have hD := hR9.2
  refine W.widen (k := 0) (n := 0) (by decide +kernel) (by decide +kernel) ?_
  refine lv_if_eq (tgt := 65) hx hb dX11_readE_53 (by decide) (fun _ => ?_) (fun c_ => absurd (by decide) c_)
  refine lv_aload_n hx hb dX11_readE_65 rfl (lv_at hl 1 rfl) ?_
  refine lv_iconst (v := 5) hx hb dX11_readE_66 (by decide) ?_
  refine pq_ci (wr := [((fa0 3), .inl (cI, 3002, .inl (upd (fun _ => 0) 0 0)))]) (W1 := (fun u => [((fa0 2), .inl (cI, 3002, .inl (upd (fun _ => 0) 0 0))), (h0, .inr (11, mo30 fa0))])) (va_runV (As := [.int 5]) (rest := []) ⟨hx, hb, hml, hown, hts⟩ (cq_X11_isWord_3 l dC dI cB cI cJ cZ h0 fa0 H.size) (cwV 1 hts gq_X11_readE_X11_isWord_3_357 rfl rfl rfl (by decide +kernel) ⟨(by decide +kernel), (by decide +kernel)⟩) ⟨pq_blind, va_recv hK hP (ci := 11) (q0 := 2) rfl rfl, pq_pre hK hP hD [2, 1] rfl rfl⟩ rfl rfl hl.1 rfl (lv_room (Nat.le_of_ble_eq_true rfl)) dX11_readE_67 ⟨(by decide +kernel), (by decide +kernel)⟩) hP hD hS hA [2, 1] [0] rfl rfl rfl (by decide) (fun r10 u9 H locs hw hP hD hS => ?_)
  subst hw
  have hR9 : pq_R (dC, dI) vwCl A [((fa0 3), .inl (cI, 3002, .inl (upd (fun _ => 0) 0 0))), ((fa0 2), .inl (cI, 3002, .inl (upd (fun _ => 0) 0 0))), (h0, .inr (11, mo30 fa0))] H := ⟨hP, hD⟩
  have hP := hR9.1
  have hD := hR9.2
  refine W.widen (k := 0) (n := 0) (by decide +kernel) (by decide +kernel) ?_
  refine lv_if_eq (tgt := 82) hx hb dX11_readE_70 (by decide) (fun _ => ?_) (fun c_ => absurd (by decide) c_)
  refine lv_aload_n hx hb dX11_readE_82 rfl (lv_at hl 1 rfl) ?_
  refine lv_bipush (v := 8) hx hb dX11_readE_83 (by decide) ?_
  refine pq_ci (wr := [((fa0 3), .inl (cI, 3002, .inl (upd (fun _ => 0) 0 0)))]) (W1 := (fun u => [((fa0 2), .inl (cI, 3002, .inl (upd (fun _ => 0) 0 0))), (h0, .inr (11, mo30 fa0))])) (va_runV (As := [.int 8]) (rest := []) ⟨hx, hb, hml, hown, hts⟩ (cq_X11_isWord_4 l dC dI cB cI cJ cZ h0 fa0 H.size) (cwV 1 hts gq_X11_readE_X11_isWord_4_357 rfl rfl rfl (by decide +kernel) ⟨(by decide +kernel), (by decide +kernel)⟩) ⟨pq_blind, va_recv hK hP (ci := 11) (q0 := 2) rfl rfl, pq_pre hK hP hD [2, 1] rfl rfl⟩ rfl rfl hl.1 rfl (lv_room (Nat.le_of_ble_eq_true rfl)) dX11_readE_85 ⟨(by decide +kernel), (by decide +kernel)⟩) hP hD hS hA [2, 1] [0] rfl rfl rfl (by decide) (fun r12 u11 H locs hw hP hD hS => ?_)
  subst hw
  have hR9 : pq_R (dC, dI) vwCl A [((fa0 3), .inl (cI, 3002, .inl (upd (fun _ => 0) 0 0))), ((fa0 2), .inl (cI, 3002, .inl (upd (fun _ => 0) 0 0))), (h0, .inr (11, mo30 fa0))] H := ⟨hP, hD⟩
  have hP := hR9.1
  have hD := hR9.2
  refine W.widen (k := 0) (n := 0) (by decide +kernel) (by decide +kernel) ?_
  refine lv_if_eq (tgt := 100) hx hb dX11_readE_88 (by decide) (fun _ => ?_) (fun c_ => absurd (by decide) c_)
  refine lv_aload_n hx hb dX11_readE_100 rfl (lv_at hl 1 rfl) ?_
  refine pq_ci (wr := []) (W1 := (fun u => [((fa0 2), .inl (cI, 3002, .inl (upd (fun _ => 0) 0 0))), ((fa0 3), .inl (cI, 3002, .inl (upd (fun _ => 0) 0 0))), (h0, .inr (11, mo31 fa0))])) (va_runV (As := []) (rest := []) ⟨hx, hb, hml, hown, hts⟩ (cq_X11_readC l dC dI cB cI cJ cZ h0 fa0 H.size) (cwV 0 hts gq_X11_readE_X11_readC_382 rfl rfl rfl (by decide +kernel) ⟨(by decide +kernel), (by decide +kernel)⟩) ⟨pq_blind, va_recv hK hP (ci := 11) (q0 := 2) rfl rfl, pq_pre hK hP hD [2, 1, 0] rfl rfl⟩ rfl rfl hl.1 rfl (lv_room (Nat.le_of_ble_eq_true rfl)) dX11_readE_101 ⟨(by decide +kernel), (by decide +kernel)⟩) hP hD hS hA [2, 1, 0] [] rfl rfl rfl (by decide) (fun r14 u13 H locs hw hP hD hS => ?_)
  subst hw
  have hR9 : pq_R (dC, dI) vwCl A [((fa0 2), .inl (cI, 3002, .inl (upd (fun _ => 0) 0 0))), ((fa0 3), .inl (cI, 3002, .inl (upd (fun _ => 0) 0 0))), (h0, .inr (11, mo31 fa0))] H := ⟨hP, hD⟩
  have hP := hR9.1
  have hD := hR9.2
  refine W.widen (k := 0) (n := 0) (by decide +kernel) (by decide +kernel) ?_
  have hP9 := pq_P.pick (wc := [((fa0 2), .inl (cI, 3002, .inl (upd (fun _ => 0) 0 0))), ((fa0 3), .inl (cI, 3002, .inl (upd (fun _ => 0) 0 0))), (h0, .inr (11, mo31 fa0))]) hP [0, 1, 2] rfl
  have hD9 := hD.sub (ws' := [((fa0 2), .inl (cI, 3002, .inl (upd (fun _ => 0) 0 0))), ((fa0 3), .inl (cI, 3002, .inl (upd (fun _ => 0) 0 0))), (h0, .inr (11, mo31 fa0))]) [0, 1, 2] (by decide) rfl
  refine W.widen (k := 0) (n := 0) (by decide +kernel) (by decide +kernel) ?_
  exact W.iret (v := (-1)) hx hb hr (fun t ht hW => ⟨⟨(-1), sq_u [] [], rfl, rfl, pq_B.of ht hP9 hD9⟩, hS.F ht⟩) hS.2.2 dX11_readE_104
def wq_X11_typeOf_r1 : List Cond := [Cond.code yX11_good cX11_good 1 (some .boolean), Cond.fieldLink RX11 319 "CodePressModel" "fault" "I", Cond.methodLink RX11 332 yX11_good, Cond.instanceMethod yX11_good, Cond.selects RX11 yX11_good yX11_good, Cond.initialized RX11]
def wq_X11_typeOf : List Cond := Cond.code yX11_typeOf cX11_typeOf 3 (some .int) :: (wq_X11_typeOf_r1 ++ wsX110)
theorem iq_X11_typeOf_X11 : ∀ w ∈ wsX110, w ∈ wq_X11_typeOf := fun _ h => List.mem_cons_of_mem _ (List.mem_append_right _ h)
set_option maxRecDepth 20000 in
theorem gq_X11_typeOf_X11_good_2_332_0 : GoodIn wq_X11_typeOf (Cond.code yX11_good cX11_good 1 (some .boolean) :: wq_X11_good_2_r1) := goodIn_r _ [1, 2] (by decide +kernel) (by decide +kernel)
set_option maxRecDepth 20000 in
theorem gq_X11_typeOf_X11_good_2_332 : GoodIn wq_X11_typeOf (wsV RX11 332 RX11 yX11_good wq_X11_good_2) := goodIn_app (goodIn_r _ [3, 4, 5, 6] (by decide +kernel) (by decide +kernel)) (goodIn_ca gq_X11_typeOf_X11_good_2_332_0 (goodIn_sub iq_X11_typeOf_X11 guX11))
set_option maxHeartbeats 4000000 in
set_option maxRecDepth 100000 in
theorem cq_X11_typeOf (l : Launch) (dC : Nat → ClassId) (dI : Nat → Nat → Nat) (cB cI cJ cZ : ClassId) (h0 : Nat) (fa0 : Nat → Nat) (sz : Nat) : Met l yX11_typeOf wq_X11_typeOf ({ frames := 1, cells := 0, slots := 0, locals := 20 }) (va_Pc [.ref h0, .int (-1)] (pq_W (dC, dI) vwCl (tyQ cB cI cJ cZ) [(h0, .inr (11, mo31 fa0))] sz)) (va_Qi (fun (r : Int32) (_ : SQ) => r = (-1)) (fun u => pq_B (dC, dI) vwCl [(h0, .inr (11, mo31 fa0))] (va_A [(h0, .inr (11, mo31 fa0))] sz)) (va_A [(h0, .inr (11, mo31 fa0))] sz)) 0 0 (va_A [(h0, .inr (11, mo31 fa0))] sz) := by
  refine Met.ofW (cc := cX11_typeOf) (maxL := 3) (ret := (some .int)) (by decide) rfl ?_
  intro p e s m args below meth c s₁ B hml hv
  obtain ⟨rfl, hsz, hP, hK, hD0⟩ := hv
  have hx := B.exec
  have hb := B.bytes
  have hr := B.returns
  have hts := atoms_spec (ws := wq_X11_typeOf) B.pre
  have hown : s.vm.findClass RX11 = some m.cls := findClass_of_methodNamed B.named
  have hlocks := B.notSynchronized
  subst hsz
  have hD := hD0.self (sz := s.heap.size)
  generalize hAe : va_A [(h0, .inr (11, mo31 fa0))] s.heap.size = A at hD ⊢
  have hA : ∀ q : Nat, s.heap.size ≤ q → A q := fun q h => by rw [← hAe]; exact Or.inr h
  have hS : va_S A s.heap s.heap [] := va_S.rf
  have hP : va_P (dC, dI) vwCl [(h0, .inr (11, mo31 fa0))] s.heap := hP
  obtain ⟨H, hH⟩ : ∃ H, H = s.heap := ⟨_, rfl⟩
  rw [← hH] at hP
  have hS : va_S A s.heap H [] := by rw [hH]; exact hS
  have hl := lv_entry ([.ref h0, .int (-1)]) (n := 3) (Nat.le_of_ble_eq_true rfl)
  rw [lg_entry_eq]
  generalize (lg_sl ([.ref h0, .int (-1)]) ++ List.replicate (3 - (lg_sl ([.ref h0, .int (-1)])).length) Slot.unset).toArray = ls at hl ⊢
  have hl : lv_has ls 3 [(0, .ref h0), (1, .int (-1))] := hl
  refine pq_heap hH ?_
  refine lv_aload_n hx hb dX11_typeOf_0 rfl (lv_at hl 0 rfl) ?_
  refine pq_ci (wr := []) (W1 := (fun u => [(h0, .inr (11, mo31 fa0))])) (va_runV (As := []) (rest := []) ⟨hx, hb, hml, hown, hts⟩ (cq_X11_good_2 l dC dI cB cI cJ cZ h0 fa0 H.size) (cwV 0 hts gq_X11_typeOf_X11_good_2_332 rfl rfl rfl (by decide +kernel) ⟨(by decide +kernel), (by decide +kernel)⟩) ⟨pq_blind, va_recv hK hP (ci := 11) (q0 := 0) rfl rfl, pq_pre hK hP hD [0] rfl rfl⟩ rfl rfl hl.1 rfl (lv_room (Nat.le_of_ble_eq_true rfl)) dX11_typeOf_1 ⟨(by decide +kernel), (by decide +kernel)⟩) hP hD hS hA [0] [] rfl rfl rfl (by decide) (fun r2 u1 H locs hw hP hD hS => ?_)
  subst hw
  have hR9 : pq_R (dC, dI) vwCl A [(h0, .inr (11, mo31 fa0))] H := ⟨hP, hD⟩
  have hP := hR9.1
  have hD := hR9.2
  refine W.widen (k := 0) (n := 0) (by decide +kernel) (by decide +kernel) ?_
  refine lv_if_ne (tgt := 9) hx hb dX11_typeOf_4 (by decide) (fun c_ => absurd (by decide) c_) (fun _ => ?_)
  refine lv_iconst (v := (-1)) hx hb dX11_typeOf_7 (by decide) ?_
  have hP9 := pq_P.pick (wc := [(h0, .inr (11, mo31 fa0))]) hP [0] rfl
  have hD9 := hD.sub (ws' := [(h0, .inr (11, mo31 fa0))]) [0] (by decide) rfl
  refine W.widen (k := 0) (n := 0) (by decide +kernel) (by decide +kernel) ?_
  exact W.iret (v := (-1)) hx hb hr (fun t ht hW => ⟨⟨(-1), sq_u [] [], rfl, rfl, pq_B.of ht hP9 hD9⟩, hS.F ht⟩) hS.2.2 dX11_typeOf_8
def wq_X11_ask_4_r1 : List Cond := [Cond.fieldLink RX11 7 "CodePressModel" "taped" "I", Cond.code yX11_opensText cX11_opensText 5 none, Cond.code yX11_cut cX11_cut 4 none, Cond.fieldLink RX11 257 "CodePressModel" "bytes" "I", Cond.fieldLink RX11 260 "CodePressModel" "tokens" "I", Cond.code yX11_token cX11_token 4 none, Cond.fieldLink RX11 25 "CodePressModel" "sort" "[I", Cond.fieldLink RX11 28 "CodePressModel" "at" "[I", Cond.fieldLink RX11 31 "CodePressModel" "value" "[I", Cond.fieldLink RX11 34 "CodePressModel" "name" "[J", Cond.methodLink RX11 274 yX11_token, Cond.instanceMethod yX11_token, Cond.selects RX11 yX11_token yX11_token, Cond.initialized RX11, Cond.methodLink RX11 435 yX11_cut, Cond.instanceMethod yX11_cut, Cond.selects RX11 yX11_cut yX11_cut, Cond.fieldLink RX11 325 "CodePressModel" "t" "I", Cond.fieldLink RX11 342 "CodePressModel" "open" "I", Cond.fieldLink RX11 319 "CodePressModel" "fault" "I", Cond.fieldLink RX11 310 "CodePressModel" "nodes" "I", Cond.fieldLink RX11 293 "CodePressModel" "types" "I", Cond.fieldLink RX11 313 "CodePressModel" "items" "I", Cond.methodLink RX11 441 yX11_opensText]
def wq_X11_ask_4_r2 : List Cond := [Cond.instanceMethod yX11_opensText, Cond.selects RX11 yX11_opensText yX11_opensText, Cond.code yX11_readE cX11_readE 3 (some .int), Cond.code yX11_good cX11_good 1 (some .boolean), Cond.methodLink RX11 332 yX11_good, Cond.instanceMethod yX11_good, Cond.selects RX11 yX11_good yX11_good, Cond.code yX11_isWord cX11_isWord 2 (some .boolean), Cond.methodLink RX11 357 yX11_isWord, Cond.instanceMethod yX11_isWord, Cond.selects RX11 yX11_isWord yX11_isWord, Cond.code yX11_readC cX11_readC 6 (some .int), Cond.code yX11_readS cX11_readS 6 (some .int), Cond.code yX11_readP cX11_readP 6 (some .int), Cond.code yX11_readA cX11_readA 5 (some .int), Cond.code yX11_readU cX11_readU 5 (some .int), Cond.code yX11_beginsU cX11_beginsU 1 (some .boolean), Cond.methodLink RX11 423 yX11_beginsU, Cond.instanceMethod yX11_beginsU, Cond.selects RX11 yX11_beginsU yX11_beginsU, Cond.code yX11_failsHere cX11_failsHere 2 none, Cond.code yX11_fails cX11_fails 3 none, Cond.fieldLink RX11 322 "CodePressModel" "place" "I", Cond.methodLink RX11 328 yX11_fails]
def wq_X11_ask_4_r3 : List Cond := [Cond.instanceMethod yX11_fails, Cond.selects RX11 yX11_fails yX11_fails, Cond.methodLink RX11 336 yX11_failsHere, Cond.instanceMethod yX11_failsHere, Cond.selects RX11 yX11_failsHere yX11_failsHere, Cond.methodLink RX11 420 yX11_readU, Cond.instanceMethod yX11_readU, Cond.selects RX11 yX11_readU yX11_readU, Cond.fieldLink RX11 385 "CodePressModel" "from" "I", Cond.methodLink RX11 417 yX11_readA, Cond.instanceMethod yX11_readA, Cond.selects RX11 yX11_readA yX11_readA, Cond.code yX11_isSign cX11_isSign 2 (some .boolean), Cond.methodLink RX11 348 yX11_isSign, Cond.instanceMethod yX11_isSign, Cond.selects RX11 yX11_isSign yX11_isSign, Cond.methodLink RX11 414 yX11_readP, Cond.instanceMethod yX11_readP, Cond.selects RX11 yX11_readP yX11_readP, Cond.methodLink RX11 407 yX11_readS, Cond.instanceMethod yX11_readS, Cond.selects RX11 yX11_readS yX11_readS, Cond.methodLink RX11 382 yX11_readC, Cond.instanceMethod yX11_readC]
def wq_X11_ask_4_r4 : List Cond := [Cond.selects RX11 yX11_readC yX11_readC, Cond.methodLink RX11 391 yX11_readE, Cond.instanceMethod yX11_readE, Cond.selects RX11 yX11_readE yX11_readE, Cond.fieldLink RX11 457 "CodePressModel" "scope" "I", Cond.fieldLink RX11 469 "CodePressModel" "bottom" "I", Cond.fieldLink RX11 460 "CodePressModel" "level" "I", Cond.fieldLink RX11 438 "CodePressModel" "half" "I", Cond.fieldLink RX11 463 "CodePressModel" "dFrom" "I", Cond.fieldLink RX11 454 "CodePressModel" "defs" "I", Cond.fieldLink RX11 466 "CodePressModel" "dKnown" "I", Cond.code yX11_typeOf cX11_typeOf 3 (some .int), Cond.methodLink RX11 482 yX11_typeOf, Cond.instanceMethod yX11_typeOf, Cond.selects RX11 yX11_typeOf yX11_typeOf, Cond.fieldLink RX11 451 "CodePressModel" "toldFault" "I", Cond.fieldLink RX11 112 "CodePressModel" "toldPlace" "I"]
def wq_X11_ask_4 : List Cond := Cond.code yX11_ask cX11_ask 7 (some .int) :: ((wq_X11_ask_4_r1 ++ (wq_X11_ask_4_r2 ++ (wq_X11_ask_4_r3 ++ wq_X11_ask_4_r4))) ++ wsX110)
theorem iq_X11_ask_4_X11 : ∀ w ∈ wsX110, w ∈ wq_X11_ask_4 := fun _ h => List.mem_cons_of_mem _ (List.mem_append_right _ h)
set_option maxRecDepth 20000 in
theorem gq_X11_ask_4_X11_opensText_1_441_0 : GoodIn wq_X11_ask_4 (Cond.code yX11_opensText cX11_opensText 5 none :: wq_X11_opensText_1_r1) := goodIn_r _ [2, 3, 4, 5, 6, 7, 8, 9, 10, 11, 12, 13, 14, 15, 16, 17, 1, 18, 19, 20, 21, 22, 23] (by decide +kernel) (by decide +kernel)
set_option maxRecDepth 20000 in
theorem gq_X11_ask_4_X11_opensText_1_441 : GoodIn wq_X11_ask_4 (wsV RX11 441 RX11 yX11_opensText wq_X11_opensText_1) := goodIn_app (goodIn_r _ [24, 25, 26, 14] (by decide +kernel) (by decide +kernel)) (goodIn_ca gq_X11_ask_4_X11_opensText_1_441_0 (goodIn_sub iq_X11_ask_4_X11 guX11))
set_option maxRecDepth 20000 in
theorem gq_X11_ask_4_X11_readE_391_0 : GoodIn wq_X11_ask_4 (Cond.code yX11_readE cX11_readE 3 (some .int) :: (wq_X11_readE_r1 ++ (wq_X11_readE_r2 ++ wq_X11_readE_r3))) := goodIn_r _ [27, 28, 20, 29, 30, 31, 14, 18, 32, 7, 33, 34, 35, 36, 37, 38, 39, 40, 41, 42, 43, 44, 45, 8, 46, 47, 48, 49, 50, 51, 52, 53, 54, 55, 56, 57, 58, 59, 60, 61, 62, 63, 64, 65, 66, 67, 68, 69, 70, 71, 72, 73] (by decide +kernel) (by decide +kernel)
set_option maxRecDepth 20000 in
theorem gq_X11_ask_4_X11_readE_391 : GoodIn wq_X11_ask_4 (wsV RX11 391 RX11 yX11_readE wq_X11_readE) := goodIn_app (goodIn_r _ [74, 75, 76, 14] (by decide +kernel) (by decide +kernel)) (goodIn_ca gq_X11_ask_4_X11_readE_391_0 (goodIn_sub iq_X11_ask_4_X11 guX11))
set_option maxRecDepth 20000 in
theorem gq_X11_ask_4_X11_good_2_332_0 : GoodIn wq_X11_ask_4 (Cond.code yX11_good cX11_good 1 (some .boolean) :: wq_X11_good_2_r1) := goodIn_r _ [28, 20] (by decide +kernel) (by decide +kernel)
set_option maxRecDepth 20000 in
theorem gq_X11_ask_4_X11_good_2_332 : GoodIn wq_X11_ask_4 (wsV RX11 332 RX11 yX11_good wq_X11_good_2) := goodIn_app (goodIn_r _ [29, 30, 31, 14] (by decide +kernel) (by decide +kernel)) (goodIn_ca gq_X11_ask_4_X11_good_2_332_0 (goodIn_sub iq_X11_ask_4_X11 guX11))
set_option maxRecDepth 20000 in
theorem gq_X11_ask_4_X11_typeOf_482_0 : GoodIn wq_X11_ask_4 (Cond.code yX11_typeOf cX11_typeOf 3 (some .int) :: wq_X11_typeOf_r1) := goodIn_r _ [84, 28, 20, 29, 30, 31, 14] (by decide +kernel) (by decide +kernel)
set_option maxRecDepth 20000 in
theorem gq_X11_ask_4_X11_typeOf_482 : GoodIn wq_X11_ask_4 (wsV RX11 482 RX11 yX11_typeOf wq_X11_typeOf) := goodIn_app (goodIn_r _ [85, 86, 87, 14] (by decide +kernel) (by decide +kernel)) (goodIn_ca gq_X11_ask_4_X11_typeOf_482_0 (goodIn_sub iq_X11_ask_4_X11 guX11))
set_option maxHeartbeats 4000000 in
set_option maxRecDepth 100000 in
theorem cq_X11_ask_4 (l : Launch) (dC : Nat → ClassId) (dI : Nat → Nat → Nat) (cB cI cJ cZ : ClassId) (h0 : Nat) (fa0 : Nat → Nat) (x0 : Int32) (x1 : Int32) (sz : Nat) (k1 : ¬ x0 < 0) (k2 : x0 ≤ 500) (k3 : ¬ 500 < x0) : Met l yX11_ask wq_X11_ask_4 ({ frames := 8, cells := 0, slots := 0, locals := 188 }) (va_Pc [.ref h0, .int 0, .int x0, .int x1] (pq_W (dC, dI) vwCl (tyQ cB cI cJ cZ) [(h0, .inr (11, mo0 fa0)), ((fa0 2), .inl (cI, 3002, .inl (fun _ => 0))), ((fa0 3), .inl (cI, 3002, .inl (fun _ => 0))), ((fa0 4), .inl (cI, 3002, .inl (fun _ => 0))), ((fa0 5), .inl (cJ, 3002, .inr (.inl (fun _ => 0))))] sz)) (va_Qi (fun (r : Int32) (_ : SQ) => r = (-1)) (fun u => pq_B (dC, dI) vwCl [((fa0 4), .inl (cI, 3002, .inl (upd (fun _ => 0) 0 0))), ((fa0 5), .inl (cJ, 3002, .inr (.inl (vp_updL (fun _ => 0) 0 0)))), ((fa0 2), .inl (cI, 3002, .inl (upd (fun _ => 0) 0 0))), ((fa0 3), .inl (cI, 3002, .inl (upd (fun _ => 0) 0 0))), (h0, .inr (11, mo33 fa0))] (va_A [(h0, .inr (11, mo0 fa0)), ((fa0 2), .inl (cI, 3002, .inl (fun _ => 0))), ((fa0 3), .inl (cI, 3002, .inl (fun _ => 0))), ((fa0 4), .inl (cI, 3002, .inl (fun _ => 0))), ((fa0 5), .inl (cJ, 3002, .inr (.inl (fun _ => 0))))] sz)) (va_A [(h0, .inr (11, mo0 fa0)), ((fa0 2), .inl (cI, 3002, .inl (fun _ => 0))), ((fa0 3), .inl (cI, 3002, .inl (fun _ => 0))), ((fa0 4), .inl (cI, 3002, .inl (fun _ => 0))), ((fa0 5), .inl (cJ, 3002, .inr (.inl (fun _ => 0))))] sz)) 0 0 (va_A [(h0, .inr (11, mo0 fa0)), ((fa0 2), .inl (cI, 3002, .inl (fun _ => 0))), ((fa0 3), .inl (cI, 3002, .inl (fun _ => 0))), ((fa0 4), .inl (cI, 3002, .inl (fun _ => 0))), ((fa0 5), .inl (cJ, 3002, .inr (.inl (fun _ => 0))))] sz) := by
  refine Met.ofW (cc := cX11_ask) (maxL := 7) (ret := (some .int)) (by decide) rfl ?_
  intro p e s m args below meth c s₁ B hml hv
  obtain ⟨rfl, hsz, hP, hK, hD0⟩ := hv
  have hx := B.exec
  have hb := B.bytes
  have hr := B.returns
  have hts := atoms_spec (ws := wq_X11_ask_4) B.pre
  have hown : s.vm.findClass RX11 = some m.cls := findClass_of_methodNamed B.named
  have hlocks := B.notSynchronized
  subst hsz
  have hD := hD0.self (sz := s.heap.size)
  generalize hAe : va_A [(h0, .inr (11, mo0 fa0)), ((fa0 2), .inl (cI, 3002, .inl (fun _ => 0))), ((fa0 3), .inl (cI, 3002, .inl (fun _ => 0))), ((fa0 4), .inl (cI, 3002, .inl (fun _ => 0))), ((fa0 5), .inl (cJ, 3002, .inr (.inl (fun _ => 0))))] s.heap.size = A at hD ⊢
  have hA : ∀ q : Nat, s.heap.size ≤ q → A q := fun q h => by rw [← hAe]; exact Or.inr h
  have hS : va_S A s.heap s.heap [] := va_S.rf
  have hP : va_P (dC, dI) vwCl [(h0, .inr (11, mo0 fa0)), ((fa0 2), .inl (cI, 3002, .inl (fun _ => 0))), ((fa0 3), .inl (cI, 3002, .inl (fun _ => 0))), ((fa0 4), .inl (cI, 3002, .inl (fun _ => 0))), ((fa0 5), .inl (cJ, 3002, .inr (.inl (fun _ => 0))))] s.heap := hP
  obtain ⟨H, hH⟩ : ∃ H, H = s.heap := ⟨_, rfl⟩
  rw [← hH] at hP
  have hS : va_S A s.heap H [] := by rw [hH]; exact hS
  have hl := lv_entry ([.ref h0, .int 0, .int x0, .int x1]) (n := 7) (Nat.le_of_ble_eq_true rfl)
  rw [lg_entry_eq]
  generalize (lg_sl ([.ref h0, .int 0, .int x0, .int x1]) ++ List.replicate (7 - (lg_sl ([.ref h0, .int 0, .int x0, .int x1])).length) Slot.unset).toArray = ls at hl ⊢
  have hl : lv_has ls 7 [(0, .ref h0), (1, .int 0), (2, .int x0), (3, .int x1)] := hl
  refine pq_heap hH ?_
  refine lv_iload_n hx hb dX11_ask_0 rfl (lv_at hl 1 rfl) ?_
  refine lv_if_lt (tgt := 23) hx hb dX11_ask_1 (by decide) (fun c_ => absurd c_ (by decide)) (fun _ => ?_)
  refine lv_iload_n hx hb dX11_ask_4 rfl (lv_at hl 1 rfl) ?_
  refine lv_aload_n hx hb dX11_ask_5 rfl (lv_at hl 0 rfl) ?_
  refine va_get (D := (dC, dI)) (ci := 11) (v := .int 0) (C := RX11) (T := TX11) (N := 122) hx hb hts iq_X11_ask_4_X11 hown hK hP 0 rfl rfl 1 (by decide) (hts (Cond.fieldLink RX11 7 "CodePressModel" "taped" "I") (List.mem_of_getElem? (i := 1) rfl)) (fun _ h9 => h9) rfl dX11_ask_6 ?_
  refine lv_icmp_gt (tgt := 23) hx hb dX11_ask_9 (by decide) (fun c_ => absurd c_ (by decide)) (fun _ => ?_)
  refine lv_iload_n hx hb dX11_ask_12 rfl (lv_at hl 2 rfl) ?_
  refine lv_if_lt (tgt := 23) hx hb dX11_ask_13 (by decide) (fun c_ => absurd c_ k1) (fun _ => ?_)
  refine lv_iload_n hx hb dX11_ask_16 rfl (lv_at hl 2 rfl) ?_
  refine lv_sipush (v := 500) hx hb dX11_ask_17 (by decide) ?_
  refine lv_icmp_le (tgt := 26) hx hb dX11_ask_20 (by decide) (fun _ => ?_) (fun c_ => absurd k2 c_)
  refine lv_aload_n hx hb dX11_ask_26 rfl (lv_at hl 0 rfl) ?_
  refine lv_iload_n hx hb dX11_ask_27 rfl (lv_at hl 1 rfl) ?_
  refine lv_sipush (v := 3400) hx hb dX11_ask_28 (by decide) ?_
  refine lv_sipush (v := 7200) hx hb dX11_ask_31 (by decide) ?_
  refine lv_sipush (v := 1200) hx hb dX11_ask_34 (by decide) ?_
  refine pq_cv (wr := []) (W1 := (fun u => [(h0, .inr (11, mo30 fa0)), ((fa0 2), .inl (cI, 3002, .inl (upd (fun _ => 0) 0 0))), ((fa0 3), .inl (cI, 3002, .inl (upd (fun _ => 0) 0 0))), ((fa0 4), .inl (cI, 3002, .inl (upd (fun _ => 0) 0 0))), ((fa0 5), .inl (cJ, 3002, .inr (.inl (vp_updL (fun _ => 0) 0 0))))])) (va_runV (As := [.int 0, .int 3400, .int 7200, .int 1200]) (rest := []) ⟨hx, hb, hml, hown, hts⟩ (cq_X11_opensText_1 l dC dI cB cI cJ cZ h0 fa0 H.size) (cwV 4 hts gq_X11_ask_4_X11_opensText_1_441 rfl rfl rfl (by decide +kernel) ⟨(by decide +kernel), (by decide +kernel)⟩) ⟨pq_blind, va_recv hK hP (ci := 11) (q0 := 0) rfl rfl, pq_pre hK hP hD [0, 1, 2, 3, 4] rfl rfl⟩ rfl rfl hl.1 rfl (lv_room (Nat.le_of_ble_eq_true rfl)) dX11_ask_37 ⟨(by decide +kernel), (by decide +kernel)⟩) hP hD hS hA [0, 1, 2, 3, 4] [] rfl rfl rfl (by decide) (fun u1 H locs hw hP hD hS => ?_)
  have hR9 : pq_R (dC, dI) vwCl A [(h0, .inr (11, mo30 fa0)), ((fa0 2), .inl (cI, 3002, .inl (upd (fun _ => 0) 0 0))), ((fa0 3), .inl (cI, 3002, .inl (upd (fun _ => 0) 0 0))), ((fa0 4), .inl (cI, 3002, .inl (upd (fun _ => 0) 0 0))), ((fa0 5), .inl (cJ, 3002, .inr (.inl (vp_updL (fun _ => 0) 0 0))))] H := ⟨hP, hD⟩
  have hP := hR9.1
  have hD := hR9.2
  refine W.widen (k := 0) (n := 0) (by decide +kernel) (by decide +kernel) ?_
  refine lv_aload_n hx hb dX11_ask_40 rfl (lv_at hl 0 rfl) ?_
  refine pq_ci (wr := [((fa0 4), .inl (cI, 3002, .inl (upd (fun _ => 0) 0 0))), ((fa0 5), .inl (cJ, 3002, .inr (.inl (vp_updL (fun _ => 0) 0 0))))]) (W1 := (fun u => [((fa0 2), .inl (cI, 3002, .inl (upd (fun _ => 0) 0 0))), ((fa0 3), .inl (cI, 3002, .inl (upd (fun _ => 0) 0 0))), (h0, .inr (11, mo31 fa0))])) (va_runV (As := []) (rest := []) ⟨hx, hb, hml, hown, hts⟩ (cq_X11_readE l dC dI cB cI cJ cZ h0 fa0 H.size) (cwV 0 hts gq_X11_ask_4_X11_readE_391 rfl rfl rfl (by decide +kernel) ⟨(by decide +kernel), (by decide +kernel)⟩) ⟨pq_blind, va_recv hK hP (ci := 11) (q0 := 0) rfl rfl, pq_pre hK hP hD [0, 1, 2] rfl rfl⟩ rfl rfl hl.1 rfl (lv_room (Nat.le_of_ble_eq_true rfl)) dX11_ask_41 ⟨(by decide +kernel), (by decide +kernel)⟩) hP hD hS hA [0, 1, 2] [3, 4] rfl rfl rfl (by decide) (fun r3 u2 H locs hw hP hD hS => ?_)
  subst hw
  have hR9 : pq_R (dC, dI) vwCl A [((fa0 4), .inl (cI, 3002, .inl (upd (fun _ => 0) 0 0))), ((fa0 5), .inl (cJ, 3002, .inr (.inl (vp_updL (fun _ => 0) 0 0)))), ((fa0 2), .inl (cI, 3002, .inl (upd (fun _ => 0) 0 0))), ((fa0 3), .inl (cI, 3002, .inl (upd (fun _ => 0) 0 0))), (h0, .inr (11, mo31 fa0))] H := ⟨hP, hD⟩
  have hP := hR9.1
  have hD := hR9.2
  refine W.widen (k := 0) (n := 0) (by decide +kernel) (by decide +kernel) ?_
  refine lv_istore (lv' := [(4, .int (-1)), (0, .ref h0), (1, .int 0), (2, .int x0), (3, .int x1)]) hx hb dX11_ask_44 hl (by decide) rfl (fun ls hl => ?_)
  refine lv_aload_n hx hb dX11_ask_46 rfl (lv_at hl 1 rfl) ?_
  refine pq_ci (wr := [((fa0 4), .inl (cI, 3002, .inl (upd (fun _ => 0) 0 0))), ((fa0 5), .inl (cJ, 3002, .inr (.inl (vp_updL (fun _ => 0) 0 0)))), ((fa0 2), .inl (cI, 3002, .inl (upd (fun _ => 0) 0 0))), ((fa0 3), .inl (cI, 3002, .inl (upd (fun _ => 0) 0 0)))]) (W1 := (fun u => [(h0, .inr (11, mo31 fa0))])) (va_runV (As := []) (rest := []) ⟨hx, hb, hml, hown, hts⟩ (cq_X11_good_2 l dC dI cB cI cJ cZ h0 fa0 H.size) (cwV 0 hts gq_X11_ask_4_X11_good_2_332 rfl rfl rfl (by decide +kernel) ⟨(by decide +kernel), (by decide +kernel)⟩) ⟨pq_blind, va_recv hK hP (ci := 11) (q0 := 4) rfl rfl, pq_pre hK hP hD [4] rfl rfl⟩ rfl rfl hl.1 rfl (lv_room (Nat.le_of_ble_eq_true rfl)) dX11_ask_47 ⟨(by decide +kernel), (by decide +kernel)⟩) hP hD hS hA [4] [0, 1, 2, 3] rfl rfl rfl (by decide) (fun r5 u4 H locs hw hP hD hS => ?_)
  subst hw
  have hR9 : pq_R (dC, dI) vwCl A [((fa0 4), .inl (cI, 3002, .inl (upd (fun _ => 0) 0 0))), ((fa0 5), .inl (cJ, 3002, .inr (.inl (vp_updL (fun _ => 0) 0 0)))), ((fa0 2), .inl (cI, 3002, .inl (upd (fun _ => 0) 0 0))), ((fa0 3), .inl (cI, 3002, .inl (upd (fun _ => 0) 0 0))), (h0, .inr (11, mo31 fa0))] H := ⟨hP, hD⟩
  have hP := hR9.1
  have hD := hR9.2
  refine W.widen (k := 0) (n := 0) (by decide +kernel) (by decide +kernel) ?_
  refine lv_if_eq (tgt := 70) hx hb dX11_ask_50 (by decide) (fun _ => ?_) (fun c_ => absurd (by decide) c_)
  refine lv_aload_n hx hb dX11_ask_70 rfl (lv_at hl 1 rfl) ?_
  refine lv_iconst (v := 0) hx hb dX11_ask_71 (by decide) ?_
  refine va_put (D := (dC, dI)) (ci := 11) (v := .int 0) (ty := .int) (C := RX11) (T := TX11) (N := 122) hx hb hts iq_X11_ask_4_X11 tyX11 tyX11_ok nmX11 hown hK hP hD hS 4 rfl rfl 64 (by decide) (hts (Cond.fieldLink RX11 457 "CodePressModel" "scope" "I") (List.mem_of_getElem? (i := 77) rfl)) (fun _ h9 => h9) rfl (by decide +kernel) rfl rfl (Nat.le_of_ble_eq_true rfl) dX11_ask_72 (fun H locs hP hD hS => ?_)
  have hR9 : pq_R (dC, dI) vwCl A [((fa0 4), .inl (cI, 3002, .inl (upd (fun _ => 0) 0 0))), ((fa0 5), .inl (cJ, 3002, .inr (.inl (vp_updL (fun _ => 0) 0 0)))), ((fa0 2), .inl (cI, 3002, .inl (upd (fun _ => 0) 0 0))), ((fa0 3), .inl (cI, 3002, .inl (upd (fun _ => 0) 0 0))), (h0, .inr (11, mo31 fa0))] H := ⟨hP, hD⟩
  have hP := hR9.1
  have hD := hR9.2
  refine lv_aload_n hx hb dX11_ask_75 rfl (lv_at hl 1 rfl) ?_
  refine lv_iconst (v := 0) hx hb dX11_ask_76 (by decide) ?_
  refine va_put (D := (dC, dI)) (ci := 11) (v := .int 0) (ty := .int) (C := RX11) (T := TX11) (N := 122) hx hb hts iq_X11_ask_4_X11 tyX11 tyX11_ok nmX11 hown hK hP hD hS 4 rfl rfl 65 (by decide) (hts (Cond.fieldLink RX11 469 "CodePressModel" "bottom" "I") (List.mem_of_getElem? (i := 78) rfl)) (fun _ h9 => h9) rfl (by decide +kernel) rfl rfl (Nat.le_of_ble_eq_true rfl) dX11_ask_77 (fun H locs hP hD hS => ?_)
  have hR9 : pq_R (dC, dI) vwCl A [((fa0 4), .inl (cI, 3002, .inl (upd (fun _ => 0) 0 0))), ((fa0 5), .inl (cJ, 3002, .inr (.inl (vp_updL (fun _ => 0) 0 0)))), ((fa0 2), .inl (cI, 3002, .inl (upd (fun _ => 0) 0 0))), ((fa0 3), .inl (cI, 3002, .inl (upd (fun _ => 0) 0 0))), (h0, .inr (11, mo31 fa0))] H := ⟨hP, hD⟩
  have hP := hR9.1
  have hD := hR9.2
  refine lv_aload_n hx hb dX11_ask_80 rfl (lv_at hl 1 rfl) ?_
  refine lv_iconst (v := 0) hx hb dX11_ask_81 (by decide) ?_
  refine va_put (D := (dC, dI)) (ci := 11) (v := .int 0) (ty := .int) (C := RX11) (T := TX11) (N := 122) hx hb hts iq_X11_ask_4_X11 tyX11 tyX11_ok nmX11 hown hK hP hD hS 4 rfl rfl 66 (by decide) (hts (Cond.fieldLink RX11 460 "CodePressModel" "level" "I") (List.mem_of_getElem? (i := 79) rfl)) (fun _ h9 => h9) rfl (by decide +kernel) rfl rfl (Nat.le_of_ble_eq_true rfl) dX11_ask_82 (fun H locs hP hD hS => ?_)
  have hR9 : pq_R (dC, dI) vwCl A [((fa0 4), .inl (cI, 3002, .inl (upd (fun _ => 0) 0 0))), ((fa0 5), .inl (cJ, 3002, .inr (.inl (vp_updL (fun _ => 0) 0 0)))), ((fa0 2), .inl (cI, 3002, .inl (upd (fun _ => 0) 0 0))), ((fa0 3), .inl (cI, 3002, .inl (upd (fun _ => 0) 0 0))), (h0, .inr (11, mo31 fa0))] H := ⟨hP, hD⟩
  have hP := hR9.1
  have hD := hR9.2
  refine lv_aload_n hx hb dX11_ask_85 rfl (lv_at hl 1 rfl) ?_
  refine lv_bipush (v := 32) hx hb dX11_ask_86 (by decide) ?_
  refine lv_aload_n hx hb dX11_ask_88 rfl (lv_at hl 1 rfl) ?_
  refine va_get (D := (dC, dI)) (ci := 11) (v := .int 0) (C := RX11) (T := TX11) (N := 122) hx hb hts iq_X11_ask_4_X11 hown hK hP 4 rfl rfl 46 (by decide) (hts (Cond.fieldLink RX11 438 "CodePressModel" "half" "I") (List.mem_of_getElem? (i := 80) rfl)) (fun _ h9 => h9) rfl dX11_ask_89 ?_
  refine lv_imul hx hb dX11_ask_92 ?_
  refine lv_topi (fun x6 ex6 => ?_)
  obtain rfl : x6 = 0 := ex6.trans (by decide)
  refine va_put (D := (dC, dI)) (ci := 11) (v := .int 0) (ty := .int) (C := RX11) (T := TX11) (N := 122) hx hb hts iq_X11_ask_4_X11 tyX11 tyX11_ok nmX11 hown hK hP hD hS 4 rfl rfl 67 (by decide) (hts (Cond.fieldLink RX11 463 "CodePressModel" "dFrom" "I") (List.mem_of_getElem? (i := 81) rfl)) (fun _ h9 => h9) rfl (by decide +kernel) rfl rfl (Nat.le_of_ble_eq_true rfl) dX11_ask_93 (fun H locs hP hD hS => ?_)
  have hR9 : pq_R (dC, dI) vwCl A [((fa0 4), .inl (cI, 3002, .inl (upd (fun _ => 0) 0 0))), ((fa0 5), .inl (cJ, 3002, .inr (.inl (vp_updL (fun _ => 0) 0 0)))), ((fa0 2), .inl (cI, 3002, .inl (upd (fun _ => 0) 0 0))), ((fa0 3), .inl (cI, 3002, .inl (upd (fun _ => 0) 0 0))), (h0, .inr (11, mo31 fa0))] H := ⟨hP, hD⟩
  have hP := hR9.1
  have hD := hR9.2
  refine lv_aload_n hx hb dX11_ask_96 rfl (lv_at hl 1 rfl) ?_
  refine lv_aload_n hx hb dX11_ask_97 rfl (lv_at hl 1 rfl) ?_
  refine va_get (D := (dC, dI)) (ci := 11) (v := .int 0) (C := RX11) (T := TX11) (N := 122) hx hb hts iq_X11_ask_4_X11 hown hK hP 4 rfl rfl 47 (by decide) (hts (Cond.fieldLink RX11 454 "CodePressModel" "defs" "I") (List.mem_of_getElem? (i := 82) rfl)) (fun _ h9 => h9) rfl dX11_ask_98 ?_
  refine va_put (D := (dC, dI)) (ci := 11) (v := .int 0) (ty := .int) (C := RX11) (T := TX11) (N := 122) hx hb hts iq_X11_ask_4_X11 tyX11 tyX11_ok nmX11 hown hK hP hD hS 4 rfl rfl 68 (by decide) (hts (Cond.fieldLink RX11 466 "CodePressModel" "dKnown" "I") (List.mem_of_getElem? (i := 83) rfl)) (fun _ h9 => h9) rfl (by decide +kernel) rfl rfl (Nat.le_of_ble_eq_true rfl) dX11_ask_101 (fun H locs hP hD hS => ?_)
  have hR9 : pq_R (dC, dI) vwCl A [((fa0 4), .inl (cI, 3002, .inl (upd (fun _ => 0) 0 0))), ((fa0 5), .inl (cJ, 3002, .inr (.inl (vp_updL (fun _ => 0) 0 0)))), ((fa0 2), .inl (cI, 3002, .inl (upd (fun _ => 0) 0 0))), ((fa0 3), .inl (cI, 3002, .inl (upd (fun _ => 0) 0 0))), (h0, .inr (11, mo31 fa0))] H := ⟨hP, hD⟩
  have hP := hR9.1
  have hD := hR9.2
  refine lv_aload_n hx hb dX11_ask_104 rfl (lv_at hl 1 rfl) ?_
  refine lv_iload hx hb dX11_ask_105 (lv_at hl 0 rfl) ?_
  refine pq_ci (wr := [((fa0 4), .inl (cI, 3002, .inl (upd (fun _ => 0) 0 0))), ((fa0 5), .inl (cJ, 3002, .inr (.inl (vp_updL (fun _ => 0) 0 0)))), ((fa0 2), .inl (cI, 3002, .inl (upd (fun _ => 0) 0 0))), ((fa0 3), .inl (cI, 3002, .inl (upd (fun _ => 0) 0 0)))]) (W1 := (fun u => [(h0, .inr (11, mo31 fa0))])) (va_runV (As := [.int (-1)]) (rest := []) ⟨hx, hb, hml, hown, hts⟩ (cq_X11_typeOf l dC dI cB cI cJ cZ h0 fa0 H.size) (cwV 1 hts gq_X11_ask_4_X11_typeOf_482 rfl rfl rfl (by decide +kernel) ⟨(by decide +kernel), (by decide +kernel)⟩) ⟨pq_blind, va_recv hK hP (ci := 11) (q0 := 4) rfl rfl, pq_pre hK hP hD [4] rfl rfl⟩ rfl rfl hl.1 rfl (lv_room (Nat.le_of_ble_eq_true rfl)) dX11_ask_107 ⟨(by decide +kernel), (by decide +kernel)⟩) hP hD hS hA [4] [0, 1, 2, 3] rfl rfl rfl (by decide) (fun r8 u7 H locs hw hP hD hS => ?_)
  subst hw
  have hR9 : pq_R (dC, dI) vwCl A [((fa0 4), .inl (cI, 3002, .inl (upd (fun _ => 0) 0 0))), ((fa0 5), .inl (cJ, 3002, .inr (.inl (vp_updL (fun _ => 0) 0 0)))), ((fa0 2), .inl (cI, 3002, .inl (upd (fun _ => 0) 0 0))), ((fa0 3), .inl (cI, 3002, .inl (upd (fun _ => 0) 0 0))), (h0, .inr (11, mo31 fa0))] H := ⟨hP, hD⟩
  have hP := hR9.1
  have hD := hR9.2
  refine W.widen (k := 0) (n := 0) (by decide +kernel) (by decide +kernel) ?_
  refine lv_istore (lv' := [(5, .int (-1)), (4, .int (-1)), (0, .ref h0), (1, .int 0), (2, .int x0), (3, .int x1)]) hx hb dX11_ask_110 hl (by decide) rfl (fun ls hl => ?_)
  refine lv_aload_n hx hb dX11_ask_112 rfl (lv_at hl 2 rfl) ?_
  refine lv_aload_n hx hb dX11_ask_113 rfl (lv_at hl 2 rfl) ?_
  refine va_get (D := (dC, dI)) (ci := 11) (v := .int 1) (C := RX11) (T := TX11) (N := 122) hx hb hts iq_X11_ask_4_X11 hown hK hP 4 rfl rfl 40 (by decide) (hts (Cond.fieldLink RX11 319 "CodePressModel" "fault" "I") (List.mem_of_getElem? (i := 20) rfl)) (fun _ h9 => h9) rfl dX11_ask_114 ?_
  refine va_put (D := (dC, dI)) (ci := 11) (v := .int 1) (ty := .int) (C := RX11) (T := TX11) (N := 122) hx hb hts iq_X11_ask_4_X11 tyX11 tyX11_ok nmX11 hown hK hP hD hS 4 rfl rfl 43 (by decide) (hts (Cond.fieldLink RX11 451 "CodePressModel" "toldFault" "I") (List.mem_of_getElem? (i := 88) rfl)) (fun _ h9 => h9) rfl (by decide +kernel) rfl rfl (Nat.le_of_ble_eq_true rfl) dX11_ask_117 (fun H locs hP hD hS => ?_)
  have hR9 : pq_R (dC, dI) vwCl A [((fa0 4), .inl (cI, 3002, .inl (upd (fun _ => 0) 0 0))), ((fa0 5), .inl (cJ, 3002, .inr (.inl (vp_updL (fun _ => 0) 0 0)))), ((fa0 2), .inl (cI, 3002, .inl (upd (fun _ => 0) 0 0))), ((fa0 3), .inl (cI, 3002, .inl (upd (fun _ => 0) 0 0))), (h0, .inr (11, mo32 fa0))] H := ⟨hP, hD⟩
  have hP := hR9.1
  have hD := hR9.2
  refine lv_aload_n hx hb dX11_ask_120 rfl (lv_at hl 2 rfl) ?_
  refine lv_aload_n hx hb dX11_ask_121 rfl (lv_at hl 2 rfl) ?_
  refine va_get (D := (dC, dI)) (ci := 11) (v := .int 1) (C := RX11) (T := TX11) (N := 122) hx hb hts iq_X11_ask_4_X11 hown hK hP 4 rfl rfl 40 (by decide) (hts (Cond.fieldLink RX11 319 "CodePressModel" "fault" "I") (List.mem_of_getElem? (i := 20) rfl)) (fun _ h9 => h9) rfl dX11_ask_122 ?_
  refine lv_if_le (tgt := 135) hx hb dX11_ask_125 (by decide) (fun c_ => absurd c_ (by decide)) (fun _ => ?_)
  refine lv_aload_n hx hb dX11_ask_128 rfl (lv_at hl 2 rfl) ?_
  refine va_get (D := (dC, dI)) (ci := 11) (v := .int 0) (C := RX11) (T := TX11) (N := 122) hx hb hts iq_X11_ask_4_X11 hown hK hP 4 rfl rfl 41 (by decide) (hts (Cond.fieldLink RX11 322 "CodePressModel" "place" "I") (List.mem_of_getElem? (i := 47) rfl)) (fun _ h9 => h9) rfl dX11_ask_129 ?_
  refine lv_goto (tgt := 136) hx hb dX11_ask_132 (by decide) ?_
  refine va_put (D := (dC, dI)) (ci := 11) (v := .int 0) (ty := .int) (C := RX11) (T := TX11) (N := 122) hx hb hts iq_X11_ask_4_X11 tyX11 tyX11_ok nmX11 hown hK hP hD hS 4 rfl rfl 44 (by decide) (hts (Cond.fieldLink RX11 112 "CodePressModel" "toldPlace" "I") (List.mem_of_getElem? (i := 89) rfl)) (fun _ h9 => h9) rfl (by decide +kernel) rfl rfl (Nat.le_of_ble_eq_true rfl) dX11_ask_136 (fun H locs hP hD hS => ?_)
  have hR9 : pq_R (dC, dI) vwCl A [((fa0 4), .inl (cI, 3002, .inl (upd (fun _ => 0) 0 0))), ((fa0 5), .inl (cJ, 3002, .inr (.inl (vp_updL (fun _ => 0) 0 0)))), ((fa0 2), .inl (cI, 3002, .inl (upd (fun _ => 0) 0 0))), ((fa0 3), .inl (cI, 3002, .inl (upd (fun _ => 0) 0 0))), (h0, .inr (11, mo33 fa0))] H := ⟨hP, hD⟩
  have hP := hR9.1
  have hD := hR9.2
  refine lv_aload_n hx hb dX11_ask_139 rfl (lv_at hl 2 rfl) ?_
  refine va_get (D := (dC, dI)) (ci := 11) (v := .int 1) (C := RX11) (T := TX11) (N := 122) hx hb hts iq_X11_ask_4_X11 hown hK hP 4 rfl rfl 40 (by decide) (hts (Cond.fieldLink RX11 319 "CodePressModel" "fault" "I") (List.mem_of_getElem? (i := 20) rfl)) (fun _ h9 => h9) rfl dX11_ask_140 ?_
  refine lv_if_le (tgt := 148) hx hb dX11_ask_143 (by decide) (fun c_ => absurd c_ (by decide)) (fun _ => ?_)
  refine lv_iconst (v := (-1)) hx hb dX11_ask_146 (by decide) ?_
  have hP9 := pq_P.pick (wc := [((fa0 4), .inl (cI, 3002, .inl (upd (fun _ => 0) 0 0))), ((fa0 5), .inl (cJ, 3002, .inr (.inl (vp_updL (fun _ => 0) 0 0)))), ((fa0 2), .inl (cI, 3002, .inl (upd (fun _ => 0) 0 0))), ((fa0 3), .inl (cI, 3002, .inl (upd (fun _ => 0) 0 0))), (h0, .inr (11, mo33 fa0))]) hP [0, 1, 2, 3, 4] rfl
  have hD9 := hD.sub (ws' := [((fa0 4), .inl (cI, 3002, .inl (upd (fun _ => 0) 0 0))), ((fa0 5), .inl (cJ, 3002, .inr (.inl (vp_updL (fun _ => 0) 0 0)))), ((fa0 2), .inl (cI, 3002, .inl (upd (fun _ => 0) 0 0))), ((fa0 3), .inl (cI, 3002, .inl (upd (fun _ => 0) 0 0))), (h0, .inr (11, mo33 fa0))]) [0, 1, 2, 3, 4] (by decide) rfl
  refine W.widen (k := 0) (n := 0) (by decide +kernel) (by decide +kernel) ?_
  exact W.iret (v := (-1)) hx hb hr (fun t ht hW => ⟨⟨(-1), sq_u [] [], rfl, rfl, pq_B.of ht hP9 hD9⟩, hS.F ht⟩) hS.2.2 dX11_ask_147
def wq_X11_fault_r1 : List Cond := [Cond.fieldLink RX11 451 "CodePressModel" "toldFault" "I"]
def wq_X11_fault : List Cond := Cond.code yX11_fault cX11_fault 2 (some .int) :: (wq_X11_fault_r1 ++ wsX110)
theorem iq_X11_fault_X11 : ∀ w ∈ wsX110, w ∈ wq_X11_fault := fun _ h => List.mem_cons_of_mem _ (List.mem_append_right _ h)
set_option maxHeartbeats 4000000 in
set_option maxRecDepth 100000 in
theorem cq_X11_fault (l : Launch) (dC : Nat → ClassId) (dI : Nat → Nat → Nat) (cB cI cJ cZ : ClassId) (h0 : Nat) (fa0 : Nat → Nat) (sz : Nat) : Met l yX11_fault wq_X11_fault ({ frames := 0, cells := 0, slots := 0, locals := 0 }) (va_Pc [.ref h0, .int 0] (pq_W (dC, dI) vwCl (tyQ cB cI cJ cZ) [(h0, .inr (11, mo0 fa0))] sz)) (va_Qi (fun (r : Int32) (_ : SQ) => r = 0) (fun u => pq_B (dC, dI) vwCl [(h0, .inr (11, mo0 fa0))] (va_A [(h0, .inr (11, mo0 fa0))] sz)) (va_A [(h0, .inr (11, mo0 fa0))] sz)) 0 0 (va_A [(h0, .inr (11, mo0 fa0))] sz) := by
  refine Met.ofW (cc := cX11_fault) (maxL := 2) (ret := (some .int)) (by decide) rfl ?_
  intro p e s m args below meth c s₁ B hml hv
  obtain ⟨rfl, hsz, hP, hK, hD0⟩ := hv
  have hx := B.exec
  have hb := B.bytes
  have hr := B.returns
  have hts := atoms_spec (ws := wq_X11_fault) B.pre
  have hown : s.vm.findClass RX11 = some m.cls := findClass_of_methodNamed B.named
  have hlocks := B.notSynchronized
  subst hsz
  have hD := hD0.self (sz := s.heap.size)
  generalize hAe : va_A [(h0, .inr (11, mo0 fa0))] s.heap.size = A at hD ⊢
  have hA : ∀ q : Nat, s.heap.size ≤ q → A q := fun q h => by rw [← hAe]; exact Or.inr h
  have hS : va_S A s.heap s.heap [] := va_S.rf
  have hP : va_P (dC, dI) vwCl [(h0, .inr (11, mo0 fa0))] s.heap := hP
  obtain ⟨H, hH⟩ : ∃ H, H = s.heap := ⟨_, rfl⟩
  rw [← hH] at hP
  have hS : va_S A s.heap H [] := by rw [hH]; exact hS
  have hl := lv_entry ([.ref h0, .int 0]) (n := 2) (Nat.le_of_ble_eq_true rfl)
  rw [lg_entry_eq]
  generalize (lg_sl ([.ref h0, .int 0]) ++ List.replicate (2 - (lg_sl ([.ref h0, .int 0])).length) Slot.unset).toArray = ls at hl ⊢
  have hl : lv_has ls 2 [(0, .ref h0), (1, .int 0)] := hl
  refine pq_heap hH ?_
  refine lv_iload_n hx hb dX11_fault_0 rfl (lv_at hl 1 rfl) ?_
  refine lv_if_ne (tgt := 11) hx hb dX11_fault_1 (by decide) (fun c_ => absurd (by decide) c_) (fun _ => ?_)
  refine lv_aload_n hx hb dX11_fault_4 rfl (lv_at hl 0 rfl) ?_
  refine va_get (D := (dC, dI)) (ci := 11) (v := .int 0) (C := RX11) (T := TX11) (N := 122) hx hb hts iq_X11_fault_X11 hown hK hP 0 rfl rfl 43 (by decide) (hts (Cond.fieldLink RX11 451 "CodePressModel" "toldFault" "I") (List.mem_of_getElem? (i := 1) rfl)) (fun _ h9 => h9) rfl dX11_fault_5 ?_
  refine lv_goto (tgt := 24) hx hb dX11_fault_8 (by decide) ?_
  have hP9 := pq_P.pick (wc := [(h0, .inr (11, mo0 fa0))]) hP [0] rfl
  have hD9 := hD.sub (ws' := [(h0, .inr (11, mo0 fa0))]) [0] (by decide) rfl
  refine W.widen (k := 0) (n := 0) (by decide +kernel) (by decide +kernel) ?_
  exact W.iret (v := 0) hx hb hr (fun t ht hW => ⟨⟨0, sq_u [] [], rfl, rfl, pq_B.of ht hP9 hD9⟩, hS.F ht⟩) hS.2.2 dX11_fault_24
def wq_X11_fault_1_r1 : List Cond := [Cond.fieldLink RX11 112 "CodePressModel" "toldPlace" "I"]
def wq_X11_fault_1 : List Cond := Cond.code yX11_fault cX11_fault 2 (some .int) :: (wq_X11_fault_1_r1 ++ wsX110)
theorem iq_X11_fault_1_X11 : ∀ w ∈ wsX110, w ∈ wq_X11_fault_1 := fun _ h => List.mem_cons_of_mem _ (List.mem_append_right _ h)
set_option maxHeartbeats 4000000 in
set_option maxRecDepth 100000 in
theorem cq_X11_fault_1 (l : Launch) (dC : Nat → ClassId) (dI : Nat → Nat → Nat) (cB cI cJ cZ : ClassId) (h0 : Nat) (fa0 : Nat → Nat) (sz : Nat) : Met l yX11_fault wq_X11_fault_1 ({ frames := 0, cells := 0, slots := 0, locals := 0 }) (va_Pc [.ref h0, .int 1] (pq_W (dC, dI) vwCl (tyQ cB cI cJ cZ) [(h0, .inr (11, mo0 fa0))] sz)) (va_Qi (fun (r : Int32) (_ : SQ) => r = (-1)) (fun u => pq_B (dC, dI) vwCl [(h0, .inr (11, mo0 fa0))] (va_A [(h0, .inr (11, mo0 fa0))] sz)) (va_A [(h0, .inr (11, mo0 fa0))] sz)) 0 0 (va_A [(h0, .inr (11, mo0 fa0))] sz) := by
  refine Met.ofW (cc := cX11_fault) (maxL := 2) (ret := (some .int)) (by decide) rfl ?_
  intro p e s m args below meth c s₁ B hml hv
  obtain ⟨rfl, hsz, hP, hK, hD0⟩ := hv
  have hx := B.exec
  have hb := B.bytes
  have hr := B.returns
  have hts := atoms_spec (ws := wq_X11_fault_1) B.pre
  have hown : s.vm.findClass RX11 = some m.cls := findClass_of_methodNamed B.named
  have hlocks := B.notSynchronized
  subst hsz
  have hD := hD0.self (sz := s.heap.size)
  generalize hAe : va_A [(h0, .inr (11, mo0 fa0))] s.heap.size = A at hD ⊢
  have hA : ∀ q : Nat, s.heap.size ≤ q → A q := fun q h => by rw [← hAe]; exact Or.inr h
  have hS : va_S A s.heap s.heap [] := va_S.rf
  have hP : va_P (dC, dI) vwCl [(h0, .inr (11, mo0 fa0))] s.heap := hP
  obtain ⟨H, hH⟩ : ∃ H, H = s.heap := ⟨_, rfl⟩
  rw [← hH] at hP
  have hS : va_S A s.heap H [] := by rw [hH]; exact hS
  have hl := lv_entry ([.ref h0, .int 1]) (n := 2) (Nat.le_of_ble_eq_true rfl)
  rw [lg_entry_eq]
  generalize (lg_sl ([.ref h0, .int 1]) ++ List.replicate (2 - (lg_sl ([.ref h0, .int 1])).length) Slot.unset).toArray = ls at hl ⊢
  have hl : lv_has ls 2 [(0, .ref h0), (1, .int 1)] := hl
  refine pq_heap hH ?_
  refine lv_iload_n hx hb dX11_fault_0 rfl (lv_at hl 1 rfl) ?_
  refine lv_if_ne (tgt := 11) hx hb dX11_fault_1 (by decide) (fun _ => ?_) (fun c_ => absurd c_ (by decide))
  refine lv_iload_n hx hb dX11_fault_11 rfl (lv_at hl 1 rfl) ?_
  refine lv_iconst (v := 1) hx hb dX11_fault_12 (by decide) ?_
  refine lv_icmp_ne (tgt := 23) hx hb dX11_fault_13 (by decide) (fun c_ => absurd (by decide) c_) (fun _ => ?_)
  refine lv_aload_n hx hb dX11_fault_16 rfl (lv_at hl 0 rfl) ?_
  refine va_get (D := (dC, dI)) (ci := 11) (v := .int (-1)) (C := RX11) (T := TX11) (N := 122) hx hb hts iq_X11_fault_1_X11 hown hK hP 0 rfl rfl 44 (by decide) (hts (Cond.fieldLink RX11 112 "CodePressModel" "toldPlace" "I") (List.mem_of_getElem? (i := 1) rfl)) (fun _ h9 => h9) rfl dX11_fault_17 ?_
  refine lv_goto (tgt := 24) hx hb dX11_fault_20 (by decide) ?_
  have hP9 := pq_P.pick (wc := [(h0, .inr (11, mo0 fa0))]) hP [0] rfl
  have hD9 := hD.sub (ws' := [(h0, .inr (11, mo0 fa0))]) [0] (by decide) rfl
  refine W.widen (k := 0) (n := 0) (by decide +kernel) (by decide +kernel) ?_
  exact W.iret (v := (-1)) hx hb hr (fun t ht hW => ⟨⟨(-1), sq_u [] [], rfl, rfl, pq_B.of ht hP9 hD9⟩, hS.F ht⟩) hS.2.2 dX11_fault_24
def wq_X11_fault_2 : List Cond := Cond.code yX11_fault cX11_fault 2 (some .int) :: (([] : List Cond))
set_option maxHeartbeats 4000000 in
set_option maxRecDepth 100000 in
theorem cq_X11_fault_2 (l : Launch) (dC : Nat → ClassId) (dI : Nat → Nat → Nat) (cB cI cJ cZ : ClassId) (a0 : Nat) (x0 : Int32) (sz : Nat) (k1 : ¬ x0 = 0) (k2 : ¬ x0 = 1) : Met l yX11_fault wq_X11_fault_2 ({ frames := 0, cells := 0, slots := 0, locals := 0 }) (va_Pc [.ref a0, .int x0] (pq_W (dC, dI) vwCl (tyQ cB cI cJ cZ) [] sz)) (va_Qi (fun (r : Int32) (_ : SQ) => r = (-1)) (fun u => pq_B (dC, dI) vwCl [] (va_A [] sz)) (va_A [] sz)) 0 0 (va_A [] sz) := by
  refine Met.ofW (cc := cX11_fault) (maxL := 2) (ret := (some .int)) (by decide) rfl ?_
  intro p e s m args below meth c s₁ B hml hv
  obtain ⟨rfl, hsz, hP, hK, hD0⟩ := hv
  have hx := B.exec
  have hb := B.bytes
  have hr := B.returns
  have hts := atoms_spec (ws := wq_X11_fault_2) B.pre
  have hown : s.vm.findClass RX11 = some m.cls := findClass_of_methodNamed B.named
  have hlocks := B.notSynchronized
  subst hsz
  have hD := hD0.self (sz := s.heap.size)
  generalize hAe : va_A [] s.heap.size = A at hD ⊢
  have hA : ∀ q : Nat, s.heap.size ≤ q → A q := fun q h => by rw [← hAe]; exact Or.inr h
  have hS : va_S A s.heap s.heap [] := va_S.rf
  have hP : va_P (dC, dI) vwCl [] s.heap := hP
  obtain ⟨H, hH⟩ : ∃ H, H = s.heap := ⟨_, rfl⟩
  rw [← hH] at hP
  have hS : va_S A s.heap H [] := by rw [hH]; exact hS
  have hl := lv_entry ([.ref a0, .int x0]) (n := 2) (Nat.le_of_ble_eq_true rfl)
  rw [lg_entry_eq]
  generalize (lg_sl ([.ref a0, .int x0]) ++ List.replicate (2 - (lg_sl ([.ref a0, .int x0])).length) Slot.unset).toArray = ls at hl ⊢
  have hl : lv_has ls 2 [(0, .ref a0), (1, .int x0)] := hl
  refine pq_heap hH ?_
  refine lv_iload_n hx hb dX11_fault_0 rfl (lv_at hl 1 rfl) ?_
  refine lv_if_ne (tgt := 11) hx hb dX11_fault_1 (by decide) (fun _ => ?_) (fun c_ => absurd c_ k1)
  refine lv_iload_n hx hb dX11_fault_11 rfl (lv_at hl 1 rfl) ?_
  refine lv_iconst (v := 1) hx hb dX11_fault_12 (by decide) ?_
  refine lv_icmp_ne (tgt := 23) hx hb dX11_fault_13 (by decide) (fun _ => ?_) (fun c_ => absurd c_ k2)
  refine lv_iconst (v := (-1)) hx hb dX11_fault_23 (by decide) ?_
  have hP9 := pq_P.pick (wc := []) hP [] rfl
  have hD9 := hD.sub (ws' := []) [] (by decide) rfl
  refine W.widen (k := 0) (n := 0) (by decide +kernel) (by decide +kernel) ?_
  exact W.iret (v := (-1)) hx hb hr (fun t ht hW => ⟨⟨(-1), sq_u [] [], rfl, rfl, pq_B.of ht hP9 hD9⟩, hS.F ht⟩) hS.2.2 dX11_fault_24
def wq_X11_told_r1 : List Cond := [Cond.fieldLink RX11 230 "CodePressModel" "answer" "I"]
def wq_X11_told : List Cond := Cond.code yX11_told cX11_told 2 (some .int) :: (wq_X11_told_r1 ++ wsX110)
theorem iq_X11_told_X11 : ∀ w ∈ wsX110, w ∈ wq_X11_told := fun _ h => List.mem_cons_of_mem _ (List.mem_append_right _ h)
set_option maxHeartbeats 4000000 in
set_option maxRecDepth 100000 in
theorem cq_X11_told (l : Launch) (dC : Nat → ClassId) (dI : Nat → Nat → Nat) (cB cI cJ cZ : ClassId) (h0 : Nat) (fa0 : Nat → Nat) (sz : Nat) : Met l yX11_told wq_X11_told ({ frames := 0, cells := 0, slots := 0, locals := 0 }) (va_Pc [.ref h0, .int 0] (pq_W (dC, dI) vwCl (tyQ cB cI cJ cZ) [(h0, .inr (11, mo0 fa0))] sz)) (va_Qi (fun (r : Int32) (_ : SQ) => r = (-1)) (fun u => pq_B (dC, dI) vwCl [(h0, .inr (11, mo0 fa0))] (va_A [(h0, .inr (11, mo0 fa0))] sz)) (va_A [(h0, .inr (11, mo0 fa0))] sz)) 0 0 (va_A [(h0, .inr (11, mo0 fa0))] sz) := by
  refine Met.ofW (cc := cX11_told) (maxL := 2) (ret := (some .int)) (by decide) rfl ?_
  intro p e s m args below meth c s₁ B hml hv
  obtain ⟨rfl, hsz, hP, hK, hD0⟩ := hv
  have hx := B.exec
  have hb := B.bytes
  have hr := B.returns
  have hts := atoms_spec (ws := wq_X11_told) B.pre
  have hown : s.vm.findClass RX11 = some m.cls := findClass_of_methodNamed B.named
  have hlocks := B.notSynchronized
  subst hsz
  have hD := hD0.self (sz := s.heap.size)
  generalize hAe : va_A [(h0, .inr (11, mo0 fa0))] s.heap.size = A at hD ⊢
  have hA : ∀ q : Nat, s.heap.size ≤ q → A q := fun q h => by rw [← hAe]; exact Or.inr h
  have hS : va_S A s.heap s.heap [] := va_S.rf
  have hP : va_P (dC, dI) vwCl [(h0, .inr (11, mo0 fa0))] s.heap := hP
  obtain ⟨H, hH⟩ : ∃ H, H = s.heap := ⟨_, rfl⟩
  rw [← hH] at hP
  have hS : va_S A s.heap H [] := by rw [hH]; exact hS
  have hl := lv_entry ([.ref h0, .int 0]) (n := 2) (Nat.le_of_ble_eq_true rfl)
  rw [lg_entry_eq]
  generalize (lg_sl ([.ref h0, .int 0]) ++ List.replicate (2 - (lg_sl ([.ref h0, .int 0])).length) Slot.unset).toArray = ls at hl ⊢
  have hl : lv_has ls 2 [(0, .ref h0), (1, .int 0)] := hl
  refine pq_heap hH ?_
  refine lv_iload_n hx hb dX11_told_0 rfl (lv_at hl 1 rfl) ?_
  refine lv_tableIn (off := 47) (tgt := 48) hx hb dX11_told_1 (by decide) (by decide) (by decide) (by decide) ?_
  refine lv_aload_n hx hb dX11_told_48 rfl (lv_at hl 0 rfl) ?_
  refine va_get (D := (dC, dI)) (ci := 11) (v := .int (-1)) (C := RX11) (T := TX11) (N := 122) hx hb hts iq_X11_told_X11 hown hK hP 0 rfl rfl 108 (by decide) (hts (Cond.fieldLink RX11 230 "CodePressModel" "answer" "I") (List.mem_of_getElem? (i := 1) rfl)) (fun _ h9 => h9) rfl dX11_told_49 ?_
  have hP9 := pq_P.pick (wc := [(h0, .inr (11, mo0 fa0))]) hP [0] rfl
  have hD9 := hD.sub (ws' := [(h0, .inr (11, mo0 fa0))]) [0] (by decide) rfl
  refine W.widen (k := 0) (n := 0) (by decide +kernel) (by decide +kernel) ?_
  exact W.iret (v := (-1)) hx hb hr (fun t ht hW => ⟨⟨(-1), sq_u [] [], rfl, rfl, pq_B.of ht hP9 hD9⟩, hS.F ht⟩) hS.2.2 dX11_told_52
def wq_X11_told_1_r1 : List Cond := [Cond.fieldLink RX11 754 "CodePressModel" "toldSteps" "I"]
def wq_X11_told_1 : List Cond := Cond.code yX11_told cX11_told 2 (some .int) :: (wq_X11_told_1_r1 ++ wsX110)
theorem iq_X11_told_1_X11 : ∀ w ∈ wsX110, w ∈ wq_X11_told_1 := fun _ h => List.mem_cons_of_mem _ (List.mem_append_right _ h)
set_option maxHeartbeats 4000000 in
set_option maxRecDepth 100000 in
theorem cq_X11_told_1 (l : Launch) (dC : Nat → ClassId) (dI : Nat → Nat → Nat) (cB cI cJ cZ : ClassId) (h0 : Nat) (fa0 : Nat → Nat) (sz : Nat) : Met l yX11_told wq_X11_told_1 ({ frames := 0, cells := 0, slots := 0, locals := 0 }) (va_Pc [.ref h0, .int 1] (pq_W (dC, dI) vwCl (tyQ cB cI cJ cZ) [(h0, .inr (11, mo0 fa0))] sz)) (va_Qi (fun (r : Int32) (_ : SQ) => r = 0) (fun u => pq_B (dC, dI) vwCl [(h0, .inr (11, mo0 fa0))] (va_A [(h0, .inr (11, mo0 fa0))] sz)) (va_A [(h0, .inr (11, mo0 fa0))] sz)) 0 0 (va_A [(h0, .inr (11, mo0 fa0))] sz) := by
  refine Met.ofW (cc := cX11_told) (maxL := 2) (ret := (some .int)) (by decide) rfl ?_
  intro p e s m args below meth c s₁ B hml hv
  obtain ⟨rfl, hsz, hP, hK, hD0⟩ := hv
  have hx := B.exec
  have hb := B.bytes
  have hr := B.returns
  have hts := atoms_spec (ws := wq_X11_told_1) B.pre
  have hown : s.vm.findClass RX11 = some m.cls := findClass_of_methodNamed B.named
  have hlocks := B.notSynchronized
  subst hsz
  have hD := hD0.self (sz := s.heap.size)
  generalize hAe : va_A [(h0, .inr (11, mo0 fa0))] s.heap.size = A at hD ⊢
  have hA : ∀ q : Nat, s.heap.size ≤ q → A q := fun q h => by rw [← hAe]; exact Or.inr h
  have hS : va_S A s.heap s.heap [] := va_S.rf
  have hP : va_P (dC, dI) vwCl [(h0, .inr (11, mo0 fa0))] s.heap := hP
  obtain ⟨H, hH⟩ : ∃ H, H = s.heap := ⟨_, rfl⟩
  rw [← hH] at hP
  have hS : va_S A s.heap H [] := by rw [hH]; exact hS
  have hl := lv_entry ([.ref h0, .int 1]) (n := 2) (Nat.le_of_ble_eq_true rfl)
  rw [lg_entry_eq]
  generalize (lg_sl ([.ref h0, .int 1]) ++ List.replicate (2 - (lg_sl ([.ref h0, .int 1])).length) Slot.unset).toArray = ls at hl ⊢
  have hl : lv_has ls 2 [(0, .ref h0), (1, .int 1)] := hl
  refine pq_heap hH ?_
  refine lv_iload_n hx hb dX11_told_0 rfl (lv_at hl 1 rfl) ?_
  refine lv_tableIn (off := 52) (tgt := 53) hx hb dX11_told_1 (by decide) (by decide) (by decide) (by decide) ?_
  refine lv_aload_n hx hb dX11_told_53 rfl (lv_at hl 0 rfl) ?_
  refine va_get (D := (dC, dI)) (ci := 11) (v := .int 0) (C := RX11) (T := TX11) (N := 122) hx hb hts iq_X11_told_1_X11 hown hK hP 0 rfl rfl 113 (by decide) (hts (Cond.fieldLink RX11 754 "CodePressModel" "toldSteps" "I") (List.mem_of_getElem? (i := 1) rfl)) (fun _ h9 => h9) rfl dX11_told_54 ?_
  have hP9 := pq_P.pick (wc := [(h0, .inr (11, mo0 fa0))]) hP [0] rfl
  have hD9 := hD.sub (ws' := [(h0, .inr (11, mo0 fa0))]) [0] (by decide) rfl
  refine W.widen (k := 0) (n := 0) (by decide +kernel) (by decide +kernel) ?_
  exact W.iret (v := 0) hx hb hr (fun t ht hW => ⟨⟨0, sq_u [] [], rfl, rfl, pq_B.of ht hP9 hD9⟩, hS.F ht⟩) hS.2.2 dX11_told_57
def wq_X11_told_2_r1 : List Cond := [Cond.fieldLink RX11 757 "CodePressModel" "toldParts" "I"]
def wq_X11_told_2 : List Cond := Cond.code yX11_told cX11_told 2 (some .int) :: (wq_X11_told_2_r1 ++ wsX110)
theorem iq_X11_told_2_X11 : ∀ w ∈ wsX110, w ∈ wq_X11_told_2 := fun _ h => List.mem_cons_of_mem _ (List.mem_append_right _ h)
set_option maxHeartbeats 4000000 in
set_option maxRecDepth 100000 in
theorem cq_X11_told_2 (l : Launch) (dC : Nat → ClassId) (dI : Nat → Nat → Nat) (cB cI cJ cZ : ClassId) (h0 : Nat) (fa0 : Nat → Nat) (sz : Nat) : Met l yX11_told wq_X11_told_2 ({ frames := 0, cells := 0, slots := 0, locals := 0 }) (va_Pc [.ref h0, .int 2] (pq_W (dC, dI) vwCl (tyQ cB cI cJ cZ) [(h0, .inr (11, mo0 fa0))] sz)) (va_Qi (fun (r : Int32) (_ : SQ) => r = 0) (fun u => pq_B (dC, dI) vwCl [(h0, .inr (11, mo0 fa0))] (va_A [(h0, .inr (11, mo0 fa0))] sz)) (va_A [(h0, .inr (11, mo0 fa0))] sz)) 0 0 (va_A [(h0, .inr (11, mo0 fa0))] sz) := by
  refine Met.ofW (cc := cX11_told) (maxL := 2) (ret := (some .int)) (by decide) rfl ?_
  intro p e s m args below meth c s₁ B hml hv
  obtain ⟨rfl, hsz, hP, hK, hD0⟩ := hv
  have hx := B.exec
  have hb := B.bytes
  have hr := B.returns
  have hts := atoms_spec (ws := wq_X11_told_2) B.pre
  have hown : s.vm.findClass RX11 = some m.cls := findClass_of_methodNamed B.named
  have hlocks := B.notSynchronized
  subst hsz
  have hD := hD0.self (sz := s.heap.size)
  generalize hAe : va_A [(h0, .inr (11, mo0 fa0))] s.heap.size = A at hD ⊢
  have hA : ∀ q : Nat, s.heap.size ≤ q → A q := fun q h => by rw [← hAe]; exact Or.inr h
  have hS : va_S A s.heap s.heap [] := va_S.rf
  have hP : va_P (dC, dI) vwCl [(h0, .inr (11, mo0 fa0))] s.heap := hP
  obtain ⟨H, hH⟩ : ∃ H, H = s.heap := ⟨_, rfl⟩
  rw [← hH] at hP
  have hS : va_S A s.heap H [] := by rw [hH]; exact hS
  have hl := lv_entry ([.ref h0, .int 2]) (n := 2) (Nat.le_of_ble_eq_true rfl)
  rw [lg_entry_eq]
  generalize (lg_sl ([.ref h0, .int 2]) ++ List.replicate (2 - (lg_sl ([.ref h0, .int 2])).length) Slot.unset).toArray = ls at hl ⊢
  have hl : lv_has ls 2 [(0, .ref h0), (1, .int 2)] := hl
  refine pq_heap hH ?_
  refine lv_iload_n hx hb dX11_told_0 rfl (lv_at hl 1 rfl) ?_
  refine lv_tableIn (off := 57) (tgt := 58) hx hb dX11_told_1 (by decide) (by decide) (by decide) (by decide) ?_
  refine lv_aload_n hx hb dX11_told_58 rfl (lv_at hl 0 rfl) ?_
  refine va_get (D := (dC, dI)) (ci := 11) (v := .int 0) (C := RX11) (T := TX11) (N := 122) hx hb hts iq_X11_told_2_X11 hown hK hP 0 rfl rfl 114 (by decide) (hts (Cond.fieldLink RX11 757 "CodePressModel" "toldParts" "I") (List.mem_of_getElem? (i := 1) rfl)) (fun _ h9 => h9) rfl dX11_told_59 ?_
  have hP9 := pq_P.pick (wc := [(h0, .inr (11, mo0 fa0))]) hP [0] rfl
  have hD9 := hD.sub (ws' := [(h0, .inr (11, mo0 fa0))]) [0] (by decide) rfl
  refine W.widen (k := 0) (n := 0) (by decide +kernel) (by decide +kernel) ?_
  exact W.iret (v := 0) hx hb hr (fun t ht hW => ⟨⟨0, sq_u [] [], rfl, rfl, pq_B.of ht hP9 hD9⟩, hS.F ht⟩) hS.2.2 dX11_told_62
def wq_X11_told_3_r1 : List Cond := [Cond.fieldLink RX11 760 "CodePressModel" "toldBegun" "I"]
def wq_X11_told_3 : List Cond := Cond.code yX11_told cX11_told 2 (some .int) :: (wq_X11_told_3_r1 ++ wsX110)
theorem iq_X11_told_3_X11 : ∀ w ∈ wsX110, w ∈ wq_X11_told_3 := fun _ h => List.mem_cons_of_mem _ (List.mem_append_right _ h)
set_option maxHeartbeats 4000000 in
set_option maxRecDepth 100000 in
theorem cq_X11_told_3 (l : Launch) (dC : Nat → ClassId) (dI : Nat → Nat → Nat) (cB cI cJ cZ : ClassId) (h0 : Nat) (fa0 : Nat → Nat) (sz : Nat) : Met l yX11_told wq_X11_told_3 ({ frames := 0, cells := 0, slots := 0, locals := 0 }) (va_Pc [.ref h0, .int 3] (pq_W (dC, dI) vwCl (tyQ cB cI cJ cZ) [(h0, .inr (11, mo0 fa0))] sz)) (va_Qi (fun (r : Int32) (_ : SQ) => r = 0) (fun u => pq_B (dC, dI) vwCl [(h0, .inr (11, mo0 fa0))] (va_A [(h0, .inr (11, mo0 fa0))] sz)) (va_A [(h0, .inr (11, mo0 fa0))] sz)) 0 0 (va_A [(h0, .inr (11, mo0 fa0))] sz) := by
  refine Met.ofW (cc := cX11_told) (maxL := 2) (ret := (some .int)) (by decide) rfl ?_
  intro p e s m args below meth c s₁ B hml hv
  obtain ⟨rfl, hsz, hP, hK, hD0⟩ := hv
  have hx := B.exec
  have hb := B.bytes
  have hr := B.returns
  have hts := atoms_spec (ws := wq_X11_told_3) B.pre
  have hown : s.vm.findClass RX11 = some m.cls := findClass_of_methodNamed B.named
  have hlocks := B.notSynchronized
  subst hsz
  have hD := hD0.self (sz := s.heap.size)
  generalize hAe : va_A [(h0, .inr (11, mo0 fa0))] s.heap.size = A at hD ⊢
  have hA : ∀ q : Nat, s.heap.size ≤ q → A q := fun q h => by rw [← hAe]; exact Or.inr h
  have hS : va_S A s.heap s.heap [] := va_S.rf
  have hP : va_P (dC, dI) vwCl [(h0, .inr (11, mo0 fa0))] s.heap := hP
  obtain ⟨H, hH⟩ : ∃ H, H = s.heap := ⟨_, rfl⟩
  rw [← hH] at hP
  have hS : va_S A s.heap H [] := by rw [hH]; exact hS
  have hl := lv_entry ([.ref h0, .int 3]) (n := 2) (Nat.le_of_ble_eq_true rfl)
  rw [lg_entry_eq]
  generalize (lg_sl ([.ref h0, .int 3]) ++ List.replicate (2 - (lg_sl ([.ref h0, .int 3])).length) Slot.unset).toArray = ls at hl ⊢
  have hl : lv_has ls 2 [(0, .ref h0), (1, .int 3)] := hl
  refine pq_heap hH ?_
  refine lv_iload_n hx hb dX11_told_0 rfl (lv_at hl 1 rfl) ?_
  refine lv_tableIn (off := 62) (tgt := 63) hx hb dX11_told_1 (by decide) (by decide) (by decide) (by decide) ?_
  refine lv_aload_n hx hb dX11_told_63 rfl (lv_at hl 0 rfl) ?_
  refine va_get (D := (dC, dI)) (ci := 11) (v := .int 0) (C := RX11) (T := TX11) (N := 122) hx hb hts iq_X11_told_3_X11 hown hK hP 0 rfl rfl 115 (by decide) (hts (Cond.fieldLink RX11 760 "CodePressModel" "toldBegun" "I") (List.mem_of_getElem? (i := 1) rfl)) (fun _ h9 => h9) rfl dX11_told_64 ?_
  have hP9 := pq_P.pick (wc := [(h0, .inr (11, mo0 fa0))]) hP [0] rfl
  have hD9 := hD.sub (ws' := [(h0, .inr (11, mo0 fa0))]) [0] (by decide) rfl
  refine W.widen (k := 0) (n := 0) (by decide +kernel) (by decide +kernel) ?_
  exact W.iret (v := 0) hx hb hr (fun t ht hW => ⟨⟨0, sq_u [] [], rfl, rfl, pq_B.of ht hP9 hD9⟩, hS.F ht⟩) hS.2.2 dX11_told_67
def wq_X11_told_4_r1 : List Cond := [Cond.fieldLink RX11 233 "CodePressModel" "valueKind" "I"]
def wq_X11_told_4 : List Cond := Cond.code yX11_told cX11_told 2 (some .int) :: (wq_X11_told_4_r1 ++ wsX110)
theorem iq_X11_told_4_X11 : ∀ w ∈ wsX110, w ∈ wq_X11_told_4 := fun _ h => List.mem_cons_of_mem _ (List.mem_append_right _ h)
set_option maxHeartbeats 4000000 in
set_option maxRecDepth 100000 in
theorem cq_X11_told_4 (l : Launch) (dC : Nat → ClassId) (dI : Nat → Nat → Nat) (cB cI cJ cZ : ClassId) (h0 : Nat) (fa0 : Nat → Nat) (sz : Nat) : Met l yX11_told wq_X11_told_4 ({ frames := 0, cells := 0, slots := 0, locals := 0 }) (va_Pc [.ref h0, .int 4] (pq_W (dC, dI) vwCl (tyQ cB cI cJ cZ) [(h0, .inr (11, mo0 fa0))] sz)) (va_Qi (fun (r : Int32) (_ : SQ) => r = (-1)) (fun u => pq_B (dC, dI) vwCl [(h0, .inr (11, mo0 fa0))] (va_A [(h0, .inr (11, mo0 fa0))] sz)) (va_A [(h0, .inr (11, mo0 fa0))] sz)) 0 0 (va_A [(h0, .inr (11, mo0 fa0))] sz) := by
  refine Met.ofW (cc := cX11_told) (maxL := 2) (ret := (some .int)) (by decide) rfl ?_
  intro p e s m args below meth c s₁ B hml hv
  obtain ⟨rfl, hsz, hP, hK, hD0⟩ := hv
  have hx := B.exec
  have hb := B.bytes
  have hr := B.returns
  have hts := atoms_spec (ws := wq_X11_told_4) B.pre
  have hown : s.vm.findClass RX11 = some m.cls := findClass_of_methodNamed B.named
  have hlocks := B.notSynchronized
  subst hsz
  have hD := hD0.self (sz := s.heap.size)
  generalize hAe : va_A [(h0, .inr (11, mo0 fa0))] s.heap.size = A at hD ⊢
  have hA : ∀ q : Nat, s.heap.size ≤ q → A q := fun q h => by rw [← hAe]; exact Or.inr h
  have hS : va_S A s.heap s.heap [] := va_S.rf
  have hP : va_P (dC, dI) vwCl [(h0, .inr (11, mo0 fa0))] s.heap := hP
  obtain ⟨H, hH⟩ : ∃ H, H = s.heap := ⟨_, rfl⟩
  rw [← hH] at hP
  have hS : va_S A s.heap H [] := by rw [hH]; exact hS
  have hl := lv_entry ([.ref h0, .int 4]) (n := 2) (Nat.le_of_ble_eq_true rfl)
  rw [lg_entry_eq]
  generalize (lg_sl ([.ref h0, .int 4]) ++ List.replicate (2 - (lg_sl ([.ref h0, .int 4])).length) Slot.unset).toArray = ls at hl ⊢
  have hl : lv_has ls 2 [(0, .ref h0), (1, .int 4)] := hl
  refine pq_heap hH ?_
  refine lv_iload_n hx hb dX11_told_0 rfl (lv_at hl 1 rfl) ?_
  refine lv_tableIn (off := 67) (tgt := 68) hx hb dX11_told_1 (by decide) (by decide) (by decide) (by decide) ?_
  refine lv_aload_n hx hb dX11_told_68 rfl (lv_at hl 0 rfl) ?_
  refine va_get (D := (dC, dI)) (ci := 11) (v := .int (-1)) (C := RX11) (T := TX11) (N := 122) hx hb hts iq_X11_told_4_X11 hown hK hP 0 rfl rfl 109 (by decide) (hts (Cond.fieldLink RX11 233 "CodePressModel" "valueKind" "I") (List.mem_of_getElem? (i := 1) rfl)) (fun _ h9 => h9) rfl dX11_told_69 ?_
  have hP9 := pq_P.pick (wc := [(h0, .inr (11, mo0 fa0))]) hP [0] rfl
  have hD9 := hD.sub (ws' := [(h0, .inr (11, mo0 fa0))]) [0] (by decide) rfl
  refine W.widen (k := 0) (n := 0) (by decide +kernel) (by decide +kernel) ?_
  exact W.iret (v := (-1)) hx hb hr (fun t ht hW => ⟨⟨(-1), sq_u [] [], rfl, rfl, pq_B.of ht hP9 hD9⟩, hS.F ht⟩) hS.2.2 dX11_told_72
def wq_X11_told_5_r1 : List Cond := [Cond.fieldLink RX11 766 "CodePressModel" "valueInt" "I"]
def wq_X11_told_5 : List Cond := Cond.code yX11_told cX11_told 2 (some .int) :: (wq_X11_told_5_r1 ++ wsX110)
theorem iq_X11_told_5_X11 : ∀ w ∈ wsX110, w ∈ wq_X11_told_5 := fun _ h => List.mem_cons_of_mem _ (List.mem_append_right _ h)
set_option maxHeartbeats 4000000 in
set_option maxRecDepth 100000 in
theorem cq_X11_told_5 (l : Launch) (dC : Nat → ClassId) (dI : Nat → Nat → Nat) (cB cI cJ cZ : ClassId) (h0 : Nat) (fa0 : Nat → Nat) (sz : Nat) : Met l yX11_told wq_X11_told_5 ({ frames := 0, cells := 0, slots := 0, locals := 0 }) (va_Pc [.ref h0, .int 5] (pq_W (dC, dI) vwCl (tyQ cB cI cJ cZ) [(h0, .inr (11, mo0 fa0))] sz)) (va_Qi (fun (r : Int32) (_ : SQ) => r = 0) (fun u => pq_B (dC, dI) vwCl [(h0, .inr (11, mo0 fa0))] (va_A [(h0, .inr (11, mo0 fa0))] sz)) (va_A [(h0, .inr (11, mo0 fa0))] sz)) 0 0 (va_A [(h0, .inr (11, mo0 fa0))] sz) := by
  refine Met.ofW (cc := cX11_told) (maxL := 2) (ret := (some .int)) (by decide) rfl ?_
  intro p e s m args below meth c s₁ B hml hv
  obtain ⟨rfl, hsz, hP, hK, hD0⟩ := hv
  have hx := B.exec
  have hb := B.bytes
  have hr := B.returns
  have hts := atoms_spec (ws := wq_X11_told_5) B.pre
  have hown : s.vm.findClass RX11 = some m.cls := findClass_of_methodNamed B.named
  have hlocks := B.notSynchronized
  subst hsz
  have hD := hD0.self (sz := s.heap.size)
  generalize hAe : va_A [(h0, .inr (11, mo0 fa0))] s.heap.size = A at hD ⊢
  have hA : ∀ q : Nat, s.heap.size ≤ q → A q := fun q h => by rw [← hAe]; exact Or.inr h
  have hS : va_S A s.heap s.heap [] := va_S.rf
  have hP : va_P (dC, dI) vwCl [(h0, .inr (11, mo0 fa0))] s.heap := hP
  obtain ⟨H, hH⟩ : ∃ H, H = s.heap := ⟨_, rfl⟩
  rw [← hH] at hP
  have hS : va_S A s.heap H [] := by rw [hH]; exact hS
  have hl := lv_entry ([.ref h0, .int 5]) (n := 2) (Nat.le_of_ble_eq_true rfl)
  rw [lg_entry_eq]
  generalize (lg_sl ([.ref h0, .int 5]) ++ List.replicate (2 - (lg_sl ([.ref h0, .int 5])).length) Slot.unset).toArray = ls at hl ⊢
  have hl : lv_has ls 2 [(0, .ref h0), (1, .int 5)] := hl
  refine pq_heap hH ?_
  refine lv_iload_n hx hb dX11_told_0 rfl (lv_at hl 1 rfl) ?_
  refine lv_tableIn (off := 72) (tgt := 73) hx hb dX11_told_1 (by decide) (by decide) (by decide) (by decide) ?_
  refine lv_aload_n hx hb dX11_told_73 rfl (lv_at hl 0 rfl) ?_
  refine va_get (D := (dC, dI)) (ci := 11) (v := .int 0) (C := RX11) (T := TX11) (N := 122) hx hb hts iq_X11_told_5_X11 hown hK hP 0 rfl rfl 110 (by decide) (hts (Cond.fieldLink RX11 766 "CodePressModel" "valueInt" "I") (List.mem_of_getElem? (i := 1) rfl)) (fun _ h9 => h9) rfl dX11_told_74 ?_
  have hP9 := pq_P.pick (wc := [(h0, .inr (11, mo0 fa0))]) hP [0] rfl
  have hD9 := hD.sub (ws' := [(h0, .inr (11, mo0 fa0))]) [0] (by decide) rfl
  refine W.widen (k := 0) (n := 0) (by decide +kernel) (by decide +kernel) ?_
  exact W.iret (v := 0) hx hb hr (fun t ht hW => ⟨⟨0, sq_u [] [], rfl, rfl, pq_B.of ht hP9 hD9⟩, hS.F ht⟩) hS.2.2 dX11_told_77
def wq_X11_told_6_r1 : List Cond := [Cond.fieldLink RX11 769 "CodePressModel" "valueSize" "I"]
def wq_X11_told_6 : List Cond := Cond.code yX11_told cX11_told 2 (some .int) :: (wq_X11_told_6_r1 ++ wsX110)
theorem iq_X11_told_6_X11 : ∀ w ∈ wsX110, w ∈ wq_X11_told_6 := fun _ h => List.mem_cons_of_mem _ (List.mem_append_right _ h)
set_option maxHeartbeats 4000000 in
set_option maxRecDepth 100000 in
theorem cq_X11_told_6 (l : Launch) (dC : Nat → ClassId) (dI : Nat → Nat → Nat) (cB cI cJ cZ : ClassId) (h0 : Nat) (fa0 : Nat → Nat) (sz : Nat) : Met l yX11_told wq_X11_told_6 ({ frames := 0, cells := 0, slots := 0, locals := 0 }) (va_Pc [.ref h0, .int 6] (pq_W (dC, dI) vwCl (tyQ cB cI cJ cZ) [(h0, .inr (11, mo0 fa0))] sz)) (va_Qi (fun (r : Int32) (_ : SQ) => r = 0) (fun u => pq_B (dC, dI) vwCl [(h0, .inr (11, mo0 fa0))] (va_A [(h0, .inr (11, mo0 fa0))] sz)) (va_A [(h0, .inr (11, mo0 fa0))] sz)) 0 0 (va_A [(h0, .inr (11, mo0 fa0))] sz) := by
  refine Met.ofW (cc := cX11_told) (maxL := 2) (ret := (some .int)) (by decide) rfl ?_
  intro p e s m args below meth c s₁ B hml hv
  obtain ⟨rfl, hsz, hP, hK, hD0⟩ := hv
  have hx := B.exec
  have hb := B.bytes
  have hr := B.returns
  have hts := atoms_spec (ws := wq_X11_told_6) B.pre
  have hown : s.vm.findClass RX11 = some m.cls := findClass_of_methodNamed B.named
  have hlocks := B.notSynchronized
  subst hsz
  have hD := hD0.self (sz := s.heap.size)
  generalize hAe : va_A [(h0, .inr (11, mo0 fa0))] s.heap.size = A at hD ⊢
  have hA : ∀ q : Nat, s.heap.size ≤ q → A q := fun q h => by rw [← hAe]; exact Or.inr h
  have hS : va_S A s.heap s.heap [] := va_S.rf
  have hP : va_P (dC, dI) vwCl [(h0, .inr (11, mo0 fa0))] s.heap := hP
  obtain ⟨H, hH⟩ : ∃ H, H = s.heap := ⟨_, rfl⟩
  rw [← hH] at hP
  have hS : va_S A s.heap H [] := by rw [hH]; exact hS
  have hl := lv_entry ([.ref h0, .int 6]) (n := 2) (Nat.le_of_ble_eq_true rfl)
  rw [lg_entry_eq]
  generalize (lg_sl ([.ref h0, .int 6]) ++ List.replicate (2 - (lg_sl ([.ref h0, .int 6])).length) Slot.unset).toArray = ls at hl ⊢
  have hl : lv_has ls 2 [(0, .ref h0), (1, .int 6)] := hl
  refine pq_heap hH ?_
  refine lv_iload_n hx hb dX11_told_0 rfl (lv_at hl 1 rfl) ?_
  refine lv_tableIn (off := 77) (tgt := 78) hx hb dX11_told_1 (by decide) (by decide) (by decide) (by decide) ?_
  refine lv_aload_n hx hb dX11_told_78 rfl (lv_at hl 0 rfl) ?_
  refine va_get (D := (dC, dI)) (ci := 11) (v := .int 0) (C := RX11) (T := TX11) (N := 122) hx hb hts iq_X11_told_6_X11 hown hK hP 0 rfl rfl 111 (by decide) (hts (Cond.fieldLink RX11 769 "CodePressModel" "valueSize" "I") (List.mem_of_getElem? (i := 1) rfl)) (fun _ h9 => h9) rfl dX11_told_79 ?_
  have hP9 := pq_P.pick (wc := [(h0, .inr (11, mo0 fa0))]) hP [0] rfl
  have hD9 := hD.sub (ws' := [(h0, .inr (11, mo0 fa0))]) [0] (by decide) rfl
  refine W.widen (k := 0) (n := 0) (by decide +kernel) (by decide +kernel) ?_
  exact W.iret (v := 0) hx hb hr (fun t ht hW => ⟨⟨0, sq_u [] [], rfl, rfl, pq_B.of ht hP9 hD9⟩, hS.F ht⟩) hS.2.2 dX11_told_82
def wq_X11_told_7_r1 : List Cond := [Cond.fieldLink RX11 772 "CodePressModel" "valueHeight" "I"]
def wq_X11_told_7 : List Cond := Cond.code yX11_told cX11_told 2 (some .int) :: (wq_X11_told_7_r1 ++ wsX110)
theorem iq_X11_told_7_X11 : ∀ w ∈ wsX110, w ∈ wq_X11_told_7 := fun _ h => List.mem_cons_of_mem _ (List.mem_append_right _ h)
set_option maxHeartbeats 4000000 in
set_option maxRecDepth 100000 in
theorem cq_X11_told_7 (l : Launch) (dC : Nat → ClassId) (dI : Nat → Nat → Nat) (cB cI cJ cZ : ClassId) (h0 : Nat) (fa0 : Nat → Nat) (sz : Nat) : Met l yX11_told wq_X11_told_7 ({ frames := 0, cells := 0, slots := 0, locals := 0 }) (va_Pc [.ref h0, .int 7] (pq_W (dC, dI) vwCl (tyQ cB cI cJ cZ) [(h0, .inr (11, mo0 fa0))] sz)) (va_Qi (fun (r : Int32) (_ : SQ) => r = 0) (fun u => pq_B (dC, dI) vwCl [(h0, .inr (11, mo0 fa0))] (va_A [(h0, .inr (11, mo0 fa0))] sz)) (va_A [(h0, .inr (11, mo0 fa0))] sz)) 0 0 (va_A [(h0, .inr (11, mo0 fa0))] sz) := by
  refine Met.ofW (cc := cX11_told) (maxL := 2) (ret := (some .int)) (by decide) rfl ?_
  intro p e s m args below meth c s₁ B hml hv
  obtain ⟨rfl, hsz, hP, hK, hD0⟩ := hv
  have hx := B.exec
  have hb := B.bytes
  have hr := B.returns
  have hts := atoms_spec (ws := wq_X11_told_7) B.pre
  have hown : s.vm.findClass RX11 = some m.cls := findClass_of_methodNamed B.named
  have hlocks := B.notSynchronized
  subst hsz
  have hD := hD0.self (sz := s.heap.size)
  generalize hAe : va_A [(h0, .inr (11, mo0 fa0))] s.heap.size = A at hD ⊢
  have hA : ∀ q : Nat, s.heap.size ≤ q → A q := fun q h => by rw [← hAe]; exact Or.inr h
  have hS : va_S A s.heap s.heap [] := va_S.rf
  have hP : va_P (dC, dI) vwCl [(h0, .inr (11, mo0 fa0))] s.heap := hP
  obtain ⟨H, hH⟩ : ∃ H, H = s.heap := ⟨_, rfl⟩
  rw [← hH] at hP
  have hS : va_S A s.heap H [] := by rw [hH]; exact hS
  have hl := lv_entry ([.ref h0, .int 7]) (n := 2) (Nat.le_of_ble_eq_true rfl)
  rw [lg_entry_eq]
  generalize (lg_sl ([.ref h0, .int 7]) ++ List.replicate (2 - (lg_sl ([.ref h0, .int 7])).length) Slot.unset).toArray = ls at hl ⊢
  have hl : lv_has ls 2 [(0, .ref h0), (1, .int 7)] := hl
  refine pq_heap hH ?_
  refine lv_iload_n hx hb dX11_told_0 rfl (lv_at hl 1 rfl) ?_
  refine lv_tableIn (off := 82) (tgt := 83) hx hb dX11_told_1 (by decide) (by decide) (by decide) (by decide) ?_
  refine lv_aload_n hx hb dX11_told_83 rfl (lv_at hl 0 rfl) ?_
  refine va_get (D := (dC, dI)) (ci := 11) (v := .int 0) (C := RX11) (T := TX11) (N := 122) hx hb hts iq_X11_told_7_X11 hown hK hP 0 rfl rfl 112 (by decide) (hts (Cond.fieldLink RX11 772 "CodePressModel" "valueHeight" "I") (List.mem_of_getElem? (i := 1) rfl)) (fun _ h9 => h9) rfl dX11_told_84 ?_
  have hP9 := pq_P.pick (wc := [(h0, .inr (11, mo0 fa0))]) hP [0] rfl
  have hD9 := hD.sub (ws' := [(h0, .inr (11, mo0 fa0))]) [0] (by decide) rfl
  refine W.widen (k := 0) (n := 0) (by decide +kernel) (by decide +kernel) ?_
  exact W.iret (v := 0) hx hb hr (fun t ht hW => ⟨⟨0, sq_u [] [], rfl, rfl, pq_B.of ht hP9 hD9⟩, hS.F ht⟩) hS.2.2 dX11_told_87
def wq_X11_told_8 : List Cond := Cond.code yX11_told cX11_told 2 (some .int) :: (([] : List Cond))
set_option maxHeartbeats 4000000 in
set_option maxRecDepth 100000 in
theorem cq_X11_told_8 (l : Launch) (dC : Nat → ClassId) (dI : Nat → Nat → Nat) (cB cI cJ cZ : ClassId) (a0 : Nat) (x0 : Int32) (sz : Nat) (k1 : x0 < 0) (k2 : x0.toInt < 0 ∨ 7 < x0.toInt) : Met l yX11_told wq_X11_told_8 ({ frames := 0, cells := 0, slots := 0, locals := 0 }) (va_Pc [.ref a0, .int x0] (pq_W (dC, dI) vwCl (tyQ cB cI cJ cZ) [] sz)) (va_Qi (fun (r : Int32) (_ : SQ) => r = (-1)) (fun u => pq_B (dC, dI) vwCl [] (va_A [] sz)) (va_A [] sz)) 0 0 (va_A [] sz) := by
  refine Met.ofW (cc := cX11_told) (maxL := 2) (ret := (some .int)) (by decide) rfl ?_
  intro p e s m args below meth c s₁ B hml hv
  obtain ⟨rfl, hsz, hP, hK, hD0⟩ := hv
  have hx := B.exec
  have hb := B.bytes
  have hr := B.returns
  have hts := atoms_spec (ws := wq_X11_told_8) B.pre
  have hown : s.vm.findClass RX11 = some m.cls := findClass_of_methodNamed B.named
  have hlocks := B.notSynchronized
  subst hsz
  have hD := hD0.self (sz := s.heap.size)
  generalize hAe : va_A [] s.heap.size = A at hD ⊢
  have hA : ∀ q : Nat, s.heap.size ≤ q → A q := fun q h => by rw [← hAe]; exact Or.inr h
  have hS : va_S A s.heap s.heap [] := va_S.rf
  have hP : va_P (dC, dI) vwCl [] s.heap := hP
  obtain ⟨H, hH⟩ : ∃ H, H = s.heap := ⟨_, rfl⟩
  rw [← hH] at hP
  have hS : va_S A s.heap H [] := by rw [hH]; exact hS
  have hl := lv_entry ([.ref a0, .int x0]) (n := 2) (Nat.le_of_ble_eq_true rfl)
  rw [lg_entry_eq]
  generalize (lg_sl ([.ref a0, .int x0]) ++ List.replicate (2 - (lg_sl ([.ref a0, .int x0])).length) Slot.unset).toArray = ls at hl ⊢
  have hl : lv_has ls 2 [(0, .ref a0), (1, .int x0)] := hl
  refine pq_heap hH ?_
  refine lv_iload_n hx hb dX11_told_0 rfl (lv_at hl 1 rfl) ?_
  refine lv_tableOut (tgt := 88) hx hb dX11_told_1 k2 (by decide) ?_
  refine lv_iconst (v := (-1)) hx hb dX11_told_88 (by decide) ?_
  have hP9 := pq_P.pick (wc := []) hP [] rfl
  have hD9 := hD.sub (ws' := []) [] (by decide) rfl
  refine W.widen (k := 0) (n := 0) (by decide +kernel) (by decide +kernel) ?_
  exact W.iret (v := (-1)) hx hb hr (fun t ht hW => ⟨⟨(-1), sq_u [] [], rfl, rfl, pq_B.of ht hP9 hD9⟩, hS.F ht⟩) hS.2.2 dX11_told_89
def wq_X11_told_9 : List Cond := Cond.code yX11_told cX11_told 2 (some .int) :: (([] : List Cond))
set_option maxHeartbeats 4000000 in
set_option maxRecDepth 100000 in
theorem cq_X11_told_9 (l : Launch) (dC : Nat → ClassId) (dI : Nat → Nat → Nat) (cB cI cJ cZ : ClassId) (a0 : Nat) (x0 : Int32) (sz : Nat) (k1 : ¬ x0 < 0) (k2 : x0.toInt < 0 ∨ 7 < x0.toInt) (k3 : 8 ≤ x0) : Met l yX11_told wq_X11_told_9 ({ frames := 0, cells := 0, slots := 0, locals := 0 }) (va_Pc [.ref a0, .int x0] (pq_W (dC, dI) vwCl (tyQ cB cI cJ cZ) [] sz)) (va_Qi (fun (r : Int32) (_ : SQ) => r = (-1)) (fun u => pq_B (dC, dI) vwCl [] (va_A [] sz)) (va_A [] sz)) 0 0 (va_A [] sz) := by
  refine Met.ofW (cc := cX11_told) (maxL := 2) (ret := (some .int)) (by decide) rfl ?_
  intro p e s m args below meth c s₁ B hml hv
  obtain ⟨rfl, hsz, hP, hK, hD0⟩ := hv
  have hx := B.exec
  have hb := B.bytes
  have hr := B.returns
  have hts := atoms_spec (ws := wq_X11_told_9) B.pre
  have hown : s.vm.findClass RX11 = some m.cls := findClass_of_methodNamed B.named
  have hlocks := B.notSynchronized
  subst hsz
  have hD := hD0.self (sz := s.heap.size)
  generalize hAe : va_A [] s.heap.size = A at hD ⊢
  have hA : ∀ q : Nat, s.heap.size ≤ q → A q := fun q h => by rw [← hAe]; exact Or.inr h
  have hS : va_S A s.heap s.heap [] := va_S.rf
  have hP : va_P (dC, dI) vwCl [] s.heap := hP
  obtain ⟨H, hH⟩ : ∃ H, H = s.heap := ⟨_, rfl⟩
  rw [← hH] at hP
  have hS : va_S A s.heap H [] := by rw [hH]; exact hS
  have hl := lv_entry ([.ref a0, .int x0]) (n := 2) (Nat.le_of_ble_eq_true rfl)
  rw [lg_entry_eq]
  generalize (lg_sl ([.ref a0, .int x0]) ++ List.replicate (2 - (lg_sl ([.ref a0, .int x0])).length) Slot.unset).toArray = ls at hl ⊢
  have hl : lv_has ls 2 [(0, .ref a0), (1, .int x0)] := hl
  refine pq_heap hH ?_
  refine lv_iload_n hx hb dX11_told_0 rfl (lv_at hl 1 rfl) ?_
  refine lv_tableOut (tgt := 88) hx hb dX11_told_1 k2 (by decide) ?_
  refine lv_iconst (v := (-1)) hx hb dX11_told_88 (by decide) ?_
  have hP9 := pq_P.pick (wc := []) hP [] rfl
  have hD9 := hD.sub (ws' := []) [] (by decide) rfl
  refine W.widen (k := 0) (n := 0) (by decide +kernel) (by decide +kernel) ?_
  exact W.iret (v := (-1)) hx hb hr (fun t ht hW => ⟨⟨(-1), sq_u [] [], rfl, rfl, pq_B.of ht hP9 hD9⟩, hS.F ht⟩) hS.2.2 dX11_told_89
def wq_X11_gives0 : List Cond := Cond.code yX11_gives0 cX11_gives0 4 (some .int) :: (([] : List Cond))
set_option maxHeartbeats 4000000 in
set_option maxRecDepth 100000 in
theorem cq_X11_gives0 (l : Launch) (dC : Nat → ClassId) (dI : Nat → Nat → Nat) (cB cI cJ cZ : ClassId) (a0 : Nat) (fa0 : Nat → Nat) (sz : Nat) : Met l yX11_gives0 wq_X11_gives0 ({ frames := 0, cells := 0, slots := 0, locals := 0 }) (va_Pc [.ref a0, .ref (fa0 65), .int (-1)] (pq_W (dC, dI) vwCl (tyQ cB cI cJ cZ) [] sz)) (va_Qi (fun (r : Int32) (_ : SQ) => r = (-1)) (fun u => pq_B (dC, dI) vwCl [] (va_A [] sz)) (va_A [] sz)) 0 0 (va_A [] sz) := by
  refine Met.ofW (cc := cX11_gives0) (maxL := 4) (ret := (some .int)) (by decide) rfl ?_
  intro p e s m args below meth c s₁ B hml hv
  obtain ⟨rfl, hsz, hP, hK, hD0⟩ := hv
  have hx := B.exec
  have hb := B.bytes
  have hr := B.returns
  have hts := atoms_spec (ws := wq_X11_gives0) B.pre
  have hown : s.vm.findClass RX11 = some m.cls := findClass_of_methodNamed B.named
  have hlocks := B.notSynchronized
  subst hsz
  have hD := hD0.self (sz := s.heap.size)
  generalize hAe : va_A [] s.heap.size = A at hD ⊢
  have hA : ∀ q : Nat, s.heap.size ≤ q → A q := fun q h => by rw [← hAe]; exact Or.inr h
  have hS : va_S A s.heap s.heap [] := va_S.rf
  have hP : va_P (dC, dI) vwCl [] s.heap := hP
  obtain ⟨H, hH⟩ : ∃ H, H = s.heap := ⟨_, rfl⟩
  rw [← hH] at hP
  have hS : va_S A s.heap H [] := by rw [hH]; exact hS
  have hl := lv_entry ([.ref a0, .ref (fa0 65), .int (-1)]) (n := 4) (Nat.le_of_ble_eq_true rfl)
  rw [lg_entry_eq]
  generalize (lg_sl ([.ref a0, .ref (fa0 65), .int (-1)]) ++ List.replicate (4 - (lg_sl ([.ref a0, .ref (fa0 65), .int (-1)])).length) Slot.unset).toArray = ls at hl ⊢
  have hl : lv_has ls 4 [(0, .ref a0), (1, .ref (fa0 65)), (2, .int (-1))] := hl
  refine pq_heap hH ?_
  refine lv_iload_n hx hb dX11_gives0_0 rfl (lv_at hl 2 rfl) ?_
  refine lv_iconst (v := (-1)) hx hb dX11_gives0_1 (by decide) ?_
  refine lv_icmp_ne (tgt := 7) hx hb dX11_gives0_2 (by decide) (fun c_ => absurd (by decide) c_) (fun _ => ?_)
  refine lv_iconst (v := (-1)) hx hb dX11_gives0_5 (by decide) ?_
  have hP9 := pq_P.pick (wc := []) hP [] rfl
  have hD9 := hD.sub (ws' := []) [] (by decide) rfl
  refine W.widen (k := 0) (n := 0) (by decide +kernel) (by decide +kernel) ?_
  exact W.iret (v := (-1)) hx hb hr (fun t ht hW => ⟨⟨(-1), sq_u [] [], rfl, rfl, pq_B.of ht hP9 hD9⟩, hS.F ht⟩) hS.2.2 dX11_gives0_6
def wq_X11_type_r1 : List Cond := [Cond.fieldLink RX11 218 "CodePressModel" "askedType" "[I", Cond.fieldLink RX11 221 "CodePressModel" "askedTypes" "I", Cond.code yX11_gives0 cX11_gives0 4 (some .int), Cond.methodLink RX11 781 yX11_gives0, Cond.instanceMethod yX11_gives0, Cond.selects RX11 yX11_gives0 yX11_gives0, Cond.initialized RX11]
def wq_X11_type : List Cond := Cond.code yX11_type cX11_type 3 (some .int) :: (wq_X11_type_r1 ++ wsX110)
theorem iq_X11_type_X11 : ∀ w ∈ wsX110, w ∈ wq_X11_type := fun _ h => List.mem_cons_of_mem _ (List.mem_append_right _ h)
set_option maxRecDepth 20000 in
theorem gq_X11_type_X11_gives0_781_0 : GoodIn wq_X11_type (Cond.code yX11_gives0 cX11_gives0 4 (some .int) :: ([] : List Cond)) := goodIn_r _ [3] (by decide +kernel) (by decide +kernel)
set_option maxRecDepth 20000 in
theorem gq_X11_type_X11_gives0_781 : GoodIn wq_X11_type (wsV RX11 781 RX11 yX11_gives0 wq_X11_gives0) := goodIn_app (goodIn_r _ [4, 5, 6, 7] (by decide +kernel) (by decide +kernel)) (gq_X11_type_X11_gives0_781_0 : GoodIn wq_X11_type wq_X11_gives0)
set_option maxHeartbeats 4000000 in
set_option maxRecDepth 100000 in
theorem cq_X11_type (l : Launch) (dC : Nat → ClassId) (dI : Nat → Nat → Nat) (cB cI cJ cZ : ClassId) (h0 : Nat) (x0 : Int32) (fa0 : Nat → Nat) (sz : Nat) : Met l yX11_type wq_X11_type ({ frames := 1, cells := 0, slots := 0, locals := 23 }) (va_Pc [.ref h0, .int 0, .int x0] (pq_W (dC, dI) vwCl (tyQ cB cI cJ cZ) [(h0, .inr (11, mo0 fa0))] sz)) (va_Qi (fun (r : Int32) (_ : SQ) => r = (-1)) (fun u => pq_B (dC, dI) vwCl [(h0, .inr (11, mo0 fa0))] (va_A [(h0, .inr (11, mo0 fa0))] sz)) (va_A [(h0, .inr (11, mo0 fa0))] sz)) 0 0 (va_A [(h0, .inr (11, mo0 fa0))] sz) := by
  refine Met.ofW (cc := cX11_type) (maxL := 3) (ret := (some .int)) (by decide) rfl ?_
  intro p e s m args below meth c s₁ B hml hv
  obtain ⟨rfl, hsz, hP, hK, hD0⟩ := hv
  have hx := B.exec
  have hb := B.bytes
  have hr := B.returns
  have hts := atoms_spec (ws := wq_X11_type) B.pre
  have hown : s.vm.findClass RX11 = some m.cls := findClass_of_methodNamed B.named
  have hlocks := B.notSynchronized
  subst hsz
  have hD := hD0.self (sz := s.heap.size)
  generalize hAe : va_A [(h0, .inr (11, mo0 fa0))] s.heap.size = A at hD ⊢
  have hA : ∀ q : Nat, s.heap.size ≤ q → A q := fun q h => by rw [← hAe]; exact Or.inr h
  have hS : va_S A s.heap s.heap [] := va_S.rf
  have hP : va_P (dC, dI) vwCl [(h0, .inr (11, mo0 fa0))] s.heap := hP
  obtain ⟨H, hH⟩ : ∃ H, H = s.heap := ⟨_, rfl⟩
  rw [← hH] at hP
  have hS : va_S A s.heap H [] := by rw [hH]; exact hS
  have hl := lv_entry ([.ref h0, .int 0, .int x0]) (n := 3) (Nat.le_of_ble_eq_true rfl)
  rw [lg_entry_eq]
  generalize (lg_sl ([.ref h0, .int 0, .int x0]) ++ List.replicate (3 - (lg_sl ([.ref h0, .int 0, .int x0])).length) Slot.unset).toArray = ls at hl ⊢
  have hl : lv_has ls 3 [(0, .ref h0), (1, .int 0), (2, .int x0)] := hl
  refine pq_heap hH ?_
  refine lv_iload_n hx hb dX11_type_0 rfl (lv_at hl 1 rfl) ?_
  refine lv_if_ne (tgt := 17) hx hb dX11_type_1 (by decide) (fun c_ => absurd (by decide) c_) (fun _ => ?_)
  refine lv_aload_n hx hb dX11_type_4 rfl (lv_at hl 0 rfl) ?_
  refine lv_aload_n hx hb dX11_type_5 rfl (lv_at hl 0 rfl) ?_
  refine va_get (D := (dC, dI)) (ci := 11) (v := .ref (fa0 65)) (C := RX11) (T := TX11) (N := 122) hx hb hts iq_X11_type_X11 hown hK hP 0 rfl rfl 104 (by decide) (hts (Cond.fieldLink RX11 218 "CodePressModel" "askedType" "[I") (List.mem_of_getElem? (i := 1) rfl)) (fun _ h9 => h9) rfl dX11_type_6 ?_
  refine lv_aload_n hx hb dX11_type_9 rfl (lv_at hl 0 rfl) ?_
  refine va_get (D := (dC, dI)) (ci := 11) (v := .int (-1)) (C := RX11) (T := TX11) (N := 122) hx hb hts iq_X11_type_X11 hown hK hP 0 rfl rfl 105 (by decide) (hts (Cond.fieldLink RX11 221 "CodePressModel" "askedTypes" "I") (List.mem_of_getElem? (i := 2) rfl)) (fun _ h9 => h9) rfl dX11_type_10 ?_
  refine pq_ci (wr := [(h0, .inr (11, mo0 fa0))]) (W1 := (fun u => [])) (va_runV (As := [.ref (fa0 65), .int (-1)]) (rest := []) ⟨hx, hb, hml, hown, hts⟩ (cq_X11_gives0 l dC dI cB cI cJ cZ h0 fa0 H.size) (cwV 2 hts gq_X11_type_X11_gives0_781 rfl rfl rfl (by decide +kernel) ⟨(by decide +kernel), (by decide +kernel)⟩) ⟨pq_blind, va_recv hK hP (ci := 11) (q0 := 0) rfl rfl, pq_pre hK hP hD [] rfl rfl⟩ rfl rfl hl.1 rfl (lv_room (Nat.le_of_ble_eq_true rfl)) dX11_type_13 ⟨(by decide +kernel), (by decide +kernel)⟩) hP hD hS hA [] [0] rfl rfl rfl (by decide) (fun r2 u1 H locs hw hP hD hS => ?_)
  subst hw
  have hR9 : pq_R (dC, dI) vwCl A [(h0, .inr (11, mo0 fa0))] H := ⟨hP, hD⟩
  have hP := hR9.1
  have hD := hR9.2
  refine W.widen (k := 0) (n := 0) (by decide +kernel) (by decide +kernel) ?_
  have hP9 := pq_P.pick (wc := [(h0, .inr (11, mo0 fa0))]) hP [0] rfl
  have hD9 := hD.sub (ws' := [(h0, .inr (11, mo0 fa0))]) [0] (by decide) rfl
  refine W.widen (k := 0) (n := 0) (by decide +kernel) (by decide +kernel) ?_
  exact W.iret (v := (-1)) hx hb hr (fun t ht hW => ⟨⟨(-1), sq_u [] [], rfl, rfl, pq_B.of ht hP9 hD9⟩, hS.F ht⟩) hS.2.2 dX11_type_16
def wq_X11_type_1 : List Cond := Cond.code yX11_type cX11_type 3 (some .int) :: (([] : List Cond))
set_option maxHeartbeats 4000000 in
set_option maxRecDepth 100000 in
theorem cq_X11_type_1 (l : Launch) (dC : Nat → ClassId) (dI : Nat → Nat → Nat) (cB cI cJ cZ : ClassId) (a0 : Nat) (x0 : Int32) (sz : Nat) (k2 : x0 < 0) : Met l yX11_type wq_X11_type_1 ({ frames := 0, cells := 0, slots := 0, locals := 0 }) (va_Pc [.ref a0, .int 1, .int x0] (pq_W (dC, dI) vwCl (tyQ cB cI cJ cZ) [] sz)) (va_Qi (fun (r : Int32) (_ : SQ) => r = (-1)) (fun u => pq_B (dC, dI) vwCl [] (va_A [] sz)) (va_A [] sz)) 0 0 (va_A [] sz) := by
  refine Met.ofW (cc := cX11_type) (maxL := 3) (ret := (some .int)) (by decide) rfl ?_
  intro p e s m args below meth c s₁ B hml hv
  obtain ⟨rfl, hsz, hP, hK, hD0⟩ := hv
  have hx := B.exec
  have hb := B.bytes
  have hr := B.returns
  have hts := atoms_spec (ws := wq_X11_type_1) B.pre
  have hown : s.vm.findClass RX11 = some m.cls := findClass_of_methodNamed B.named
  have hlocks := B.notSynchronized
  subst hsz
  have hD := hD0.self (sz := s.heap.size)
  generalize hAe : va_A [] s.heap.size = A at hD ⊢
  have hA : ∀ q : Nat, s.heap.size ≤ q → A q := fun q h => by rw [← hAe]; exact Or.inr h
  have hS : va_S A s.heap s.heap [] := va_S.rf
  have hP : va_P (dC, dI) vwCl [] s.heap := hP
  obtain ⟨H, hH⟩ : ∃ H, H = s.heap := ⟨_, rfl⟩
  rw [← hH] at hP
  have hS : va_S A s.heap H [] := by rw [hH]; exact hS
  have hl := lv_entry ([.ref a0, .int 1, .int x0]) (n := 3) (Nat.le_of_ble_eq_true rfl)
  rw [lg_entry_eq]
  generalize (lg_sl ([.ref a0, .int 1, .int x0]) ++ List.replicate (3 - (lg_sl ([.ref a0, .int 1, .int x0])).length) Slot.unset).toArray = ls at hl ⊢
  have hl : lv_has ls 3 [(0, .ref a0), (1, .int 1), (2, .int x0)] := hl
  refine pq_heap hH ?_
  refine lv_iload_n hx hb dX11_type_0 rfl (lv_at hl 1 rfl) ?_
  refine lv_if_ne (tgt := 17) hx hb dX11_type_1 (by decide) (fun _ => ?_) (fun c_ => absurd c_ (by decide))
  refine lv_iload_n hx hb dX11_type_17 rfl (lv_at hl 1 rfl) ?_
  refine lv_iconst (v := 1) hx hb dX11_type_18 (by decide) ?_
  refine lv_icmp_ne (tgt := 34) hx hb dX11_type_19 (by decide) (fun c_ => absurd (by decide) c_) (fun _ => ?_)
  refine lv_iload_n hx hb dX11_type_22 rfl (lv_at hl 2 rfl) ?_
  refine lv_if_lt (tgt := 34) hx hb dX11_type_23 (by decide) (fun _ => ?_) (fun c_ => absurd k2 c_)
  refine lv_iconst (v := (-1)) hx hb dX11_type_34 (by decide) ?_
  have hP9 := pq_P.pick (wc := []) hP [] rfl
  have hD9 := hD.sub (ws' := []) [] (by decide) rfl
  refine W.widen (k := 0) (n := 0) (by decide +kernel) (by decide +kernel) ?_
  exact W.iret (v := (-1)) hx hb hr (fun t ht hW => ⟨⟨(-1), sq_u [] [], rfl, rfl, pq_B.of ht hP9 hD9⟩, hS.F ht⟩) hS.2.2 dX11_type_35
def wq_X11_type_2_r1 : List Cond := [Cond.fieldLink RX11 454 "CodePressModel" "defs" "I"]
def wq_X11_type_2 : List Cond := Cond.code yX11_type cX11_type 3 (some .int) :: (wq_X11_type_2_r1 ++ wsX110)
theorem iq_X11_type_2_X11 : ∀ w ∈ wsX110, w ∈ wq_X11_type_2 := fun _ h => List.mem_cons_of_mem _ (List.mem_append_right _ h)
set_option maxHeartbeats 4000000 in
set_option maxRecDepth 100000 in
theorem cq_X11_type_2 (l : Launch) (dC : Nat → ClassId) (dI : Nat → Nat → Nat) (cB cI cJ cZ : ClassId) (h0 : Nat) (x0 : Int32) (fa0 : Nat → Nat) (sz : Nat) (k2 : ¬ x0 < 0) (k3 : 0 ≤ x0) : Met l yX11_type wq_X11_type_2 ({ frames := 0, cells := 0, slots := 0, locals := 0 }) (va_Pc [.ref h0, .int 1, .int x0] (pq_W (dC, dI) vwCl (tyQ cB cI cJ cZ) [(h0, .inr (11, mo0 fa0))] sz)) (va_Qi (fun (r : Int32) (_ : SQ) => r = (-1)) (fun u => pq_B (dC, dI) vwCl [(h0, .inr (11, mo0 fa0))] (va_A [(h0, .inr (11, mo0 fa0))] sz)) (va_A [(h0, .inr (11, mo0 fa0))] sz)) 0 0 (va_A [(h0, .inr (11, mo0 fa0))] sz) := by
  refine Met.ofW (cc := cX11_type) (maxL := 3) (ret := (some .int)) (by decide) rfl ?_
  intro p e s m args below meth c s₁ B hml hv
  obtain ⟨rfl, hsz, hP, hK, hD0⟩ := hv
  have hx := B.exec
  have hb := B.bytes
  have hr := B.returns
  have hts := atoms_spec (ws := wq_X11_type_2) B.pre
  have hown : s.vm.findClass RX11 = some m.cls := findClass_of_methodNamed B.named
  have hlocks := B.notSynchronized
  subst hsz
  have hD := hD0.self (sz := s.heap.size)
  generalize hAe : va_A [(h0, .inr (11, mo0 fa0))] s.heap.size = A at hD ⊢
  have hA : ∀ q : Nat, s.heap.size ≤ q → A q := fun q h => by rw [← hAe]; exact Or.inr h
  have hS : va_S A s.heap s.heap [] := va_S.rf
  have hP : va_P (dC, dI) vwCl [(h0, .inr (11, mo0 fa0))] s.heap := hP
  obtain ⟨H, hH⟩ : ∃ H, H = s.heap := ⟨_, rfl⟩
  rw [← hH] at hP
  have hS : va_S A s.heap H [] := by rw [hH]; exact hS
  have hl := lv_entry ([.ref h0, .int 1, .int x0]) (n := 3) (Nat.le_of_ble_eq_true rfl)
  rw [lg_entry_eq]
  generalize (lg_sl ([.ref h0, .int 1, .int x0]) ++ List.replicate (3 - (lg_sl ([.ref h0, .int 1, .int x0])).length) Slot.unset).toArray = ls at hl ⊢
  have hl : lv_has ls 3 [(0, .ref h0), (1, .int 1), (2, .int x0)] := hl
  refine pq_heap hH ?_
  refine lv_iload_n hx hb dX11_type_0 rfl (lv_at hl 1 rfl) ?_
  refine lv_if_ne (tgt := 17) hx hb dX11_type_1 (by decide) (fun _ => ?_) (fun c_ => absurd c_ (by decide))
  refine lv_iload_n hx hb dX11_type_17 rfl (lv_at hl 1 rfl) ?_
  refine lv_iconst (v := 1) hx hb dX11_type_18 (by decide) ?_
  refine lv_icmp_ne (tgt := 34) hx hb dX11_type_19 (by decide) (fun c_ => absurd (by decide) c_) (fun _ => ?_)
  refine lv_iload_n hx hb dX11_type_22 rfl (lv_at hl 2 rfl) ?_
  refine lv_if_lt (tgt := 34) hx hb dX11_type_23 (by decide) (fun c_ => absurd c_ k2) (fun _ => ?_)
  refine lv_iload_n hx hb dX11_type_26 rfl (lv_at hl 2 rfl) ?_
  refine lv_aload_n hx hb dX11_type_27 rfl (lv_at hl 0 rfl) ?_
  refine va_get (D := (dC, dI)) (ci := 11) (v := .int 0) (C := RX11) (T := TX11) (N := 122) hx hb hts iq_X11_type_2_X11 hown hK hP 0 rfl rfl 47 (by decide) (hts (Cond.fieldLink RX11 454 "CodePressModel" "defs" "I") (List.mem_of_getElem? (i := 1) rfl)) (fun _ h9 => h9) rfl dX11_type_28 ?_
  refine lv_icmp_lt (tgt := 36) hx hb dX11_type_31 (by decide) (fun c_ => absurd c_ k2) (fun _ => ?_)
  refine lv_iconst (v := (-1)) hx hb dX11_type_34 (by decide) ?_
  have hP9 := pq_P.pick (wc := [(h0, .inr (11, mo0 fa0))]) hP [0] rfl
  have hD9 := hD.sub (ws' := [(h0, .inr (11, mo0 fa0))]) [0] (by decide) rfl
  refine W.widen (k := 0) (n := 0) (by decide +kernel) (by decide +kernel) ?_
  exact W.iret (v := (-1)) hx hb hr (fun t ht hW => ⟨⟨(-1), sq_u [] [], rfl, rfl, pq_B.of ht hP9 hD9⟩, hS.F ht⟩) hS.2.2 dX11_type_35
def wq_X11_type_3 : List Cond := Cond.code yX11_type cX11_type 3 (some .int) :: (([] : List Cond))
set_option maxHeartbeats 4000000 in
set_option maxRecDepth 100000 in
theorem cq_X11_type_3 (l : Launch) (dC : Nat → ClassId) (dI : Nat → Nat → Nat) (cB cI cJ cZ : ClassId) (a0 : Nat) (x0 : Int32) (x1 : Int32) (sz : Nat) (k1 : ¬ x0 = 0) (k2 : ¬ x0 = 1) : Met l yX11_type wq_X11_type_3 ({ frames := 0, cells := 0, slots := 0, locals := 0 }) (va_Pc [.ref a0, .int x0, .int x1] (pq_W (dC, dI) vwCl (tyQ cB cI cJ cZ) [] sz)) (va_Qi (fun (r : Int32) (_ : SQ) => r = (-1)) (fun u => pq_B (dC, dI) vwCl [] (va_A [] sz)) (va_A [] sz)) 0 0 (va_A [] sz) := by
  refine Met.ofW (cc := cX11_type) (maxL := 3) (ret := (some .int)) (by decide) rfl ?_
  intro p e s m args below meth c s₁ B hml hv
  obtain ⟨rfl, hsz, hP, hK, hD0⟩ := hv
  have hx := B.exec
  have hb := B.bytes
  have hr := B.returns
  have hts := atoms_spec (ws := wq_X11_type_3) B.pre
  have hown : s.vm.findClass RX11 = some m.cls := findClass_of_methodNamed B.named
  have hlocks := B.notSynchronized
  subst hsz
  have hD := hD0.self (sz := s.heap.size)
  generalize hAe : va_A [] s.heap.size = A at hD ⊢
  have hA : ∀ q : Nat, s.heap.size ≤ q → A q := fun q h => by rw [← hAe]; exact Or.inr h
  have hS : va_S A s.heap s.heap [] := va_S.rf
  have hP : va_P (dC, dI) vwCl [] s.heap := hP
  obtain ⟨H, hH⟩ : ∃ H, H = s.heap := ⟨_, rfl⟩
  rw [← hH] at hP
  have hS : va_S A s.heap H [] := by rw [hH]; exact hS
  have hl := lv_entry ([.ref a0, .int x0, .int x1]) (n := 3) (Nat.le_of_ble_eq_true rfl)
  rw [lg_entry_eq]
  generalize (lg_sl ([.ref a0, .int x0, .int x1]) ++ List.replicate (3 - (lg_sl ([.ref a0, .int x0, .int x1])).length) Slot.unset).toArray = ls at hl ⊢
  have hl : lv_has ls 3 [(0, .ref a0), (1, .int x0), (2, .int x1)] := hl
  refine pq_heap hH ?_
  refine lv_iload_n hx hb dX11_type_0 rfl (lv_at hl 1 rfl) ?_
  refine lv_if_ne (tgt := 17) hx hb dX11_type_1 (by decide) (fun _ => ?_) (fun c_ => absurd c_ k1)
  refine lv_iload_n hx hb dX11_type_17 rfl (lv_at hl 1 rfl) ?_
  refine lv_iconst (v := 1) hx hb dX11_type_18 (by decide) ?_
  refine lv_icmp_ne (tgt := 34) hx hb dX11_type_19 (by decide) (fun _ => ?_) (fun c_ => absurd c_ k2)
  refine lv_iconst (v := (-1)) hx hb dX11_type_34 (by decide) ?_
  have hP9 := pq_P.pick (wc := []) hP [] rfl
  have hD9 := hD.sub (ws' := []) [] (by decide) rfl
  refine W.widen (k := 0) (n := 0) (by decide +kernel) (by decide +kernel) ?_
  exact W.iret (v := (-1)) hx hb hr (fun t ht hW => ⟨⟨(-1), sq_u [] [], rfl, rfl, pq_B.of ht hP9 hD9⟩, hS.F ht⟩) hS.2.2 dX11_type_35
def wq_X11_gives0_1 : List Cond := Cond.code yX11_gives0 cX11_gives0 4 (some .int) :: (([] : List Cond))
set_option maxHeartbeats 4000000 in
set_option maxRecDepth 100000 in
theorem cq_X11_gives0_1 (l : Launch) (dC : Nat → ClassId) (dI : Nat → Nat → Nat) (cB cI cJ cZ : ClassId) (a0 : Nat) (fa0 : Nat → Nat) (sz : Nat) : Met l yX11_gives0 wq_X11_gives0_1 ({ frames := 0, cells := 0, slots := 0, locals := 0 }) (va_Pc [.ref a0, .ref (fa0 66), .int (-1)] (pq_W (dC, dI) vwCl (tyQ cB cI cJ cZ) [] sz)) (va_Qi (fun (r : Int32) (_ : SQ) => r = (-1)) (fun u => pq_B (dC, dI) vwCl [] (va_A [] sz)) (va_A [] sz)) 0 0 (va_A [] sz) := by
  refine Met.ofW (cc := cX11_gives0) (maxL := 4) (ret := (some .int)) (by decide) rfl ?_
  intro p e s m args below meth c s₁ B hml hv
  obtain ⟨rfl, hsz, hP, hK, hD0⟩ := hv
  have hx := B.exec
  have hb := B.bytes
  have hr := B.returns
  have hts := atoms_spec (ws := wq_X11_gives0_1) B.pre
  have hown : s.vm.findClass RX11 = some m.cls := findClass_of_methodNamed B.named
  have hlocks := B.notSynchronized
  subst hsz
  have hD := hD0.self (sz := s.heap.size)
  generalize hAe : va_A [] s.heap.size = A at hD ⊢
  have hA : ∀ q : Nat, s.heap.size ≤ q → A q := fun q h => by rw [← hAe]; exact Or.inr h
  have hS : va_S A s.heap s.heap [] := va_S.rf
  have hP : va_P (dC, dI) vwCl [] s.heap := hP
  obtain ⟨H, hH⟩ : ∃ H, H = s.heap := ⟨_, rfl⟩
  rw [← hH] at hP
  have hS : va_S A s.heap H [] := by rw [hH]; exact hS
  have hl := lv_entry ([.ref a0, .ref (fa0 66), .int (-1)]) (n := 4) (Nat.le_of_ble_eq_true rfl)
  rw [lg_entry_eq]
  generalize (lg_sl ([.ref a0, .ref (fa0 66), .int (-1)]) ++ List.replicate (4 - (lg_sl ([.ref a0, .ref (fa0 66), .int (-1)])).length) Slot.unset).toArray = ls at hl ⊢
  have hl : lv_has ls 4 [(0, .ref a0), (1, .ref (fa0 66)), (2, .int (-1))] := hl
  refine pq_heap hH ?_
  refine lv_iload_n hx hb dX11_gives0_0 rfl (lv_at hl 2 rfl) ?_
  refine lv_iconst (v := (-1)) hx hb dX11_gives0_1 (by decide) ?_
  refine lv_icmp_ne (tgt := 7) hx hb dX11_gives0_2 (by decide) (fun c_ => absurd (by decide) c_) (fun _ => ?_)
  refine lv_iconst (v := (-1)) hx hb dX11_gives0_5 (by decide) ?_
  have hP9 := pq_P.pick (wc := []) hP [] rfl
  have hD9 := hD.sub (ws' := []) [] (by decide) rfl
  refine W.widen (k := 0) (n := 0) (by decide +kernel) (by decide +kernel) ?_
  exact W.iret (v := (-1)) hx hb hr (fun t ht hW => ⟨⟨(-1), sq_u [] [], rfl, rfl, pq_B.of ht hP9 hD9⟩, hS.F ht⟩) hS.2.2 dX11_gives0_6
def wq_X11_value_r1 : List Cond := [Cond.fieldLink RX11 224 "CodePressModel" "askedValue" "[I", Cond.fieldLink RX11 227 "CodePressModel" "askedValues" "I", Cond.code yX11_gives0 cX11_gives0 4 (some .int), Cond.methodLink RX11 781 yX11_gives0, Cond.instanceMethod yX11_gives0, Cond.selects RX11 yX11_gives0 yX11_gives0, Cond.initialized RX11]
def wq_X11_value : List Cond := Cond.code yX11_value cX11_value 1 (some .int) :: (wq_X11_value_r1 ++ wsX110)
theorem iq_X11_value_X11 : ∀ w ∈ wsX110, w ∈ wq_X11_value := fun _ h => List.mem_cons_of_mem _ (List.mem_append_right _ h)
set_option maxRecDepth 20000 in
theorem gq_X11_value_X11_gives0_1_781_0 : GoodIn wq_X11_value (Cond.code yX11_gives0 cX11_gives0 4 (some .int) :: ([] : List Cond)) := goodIn_r _ [3] (by decide +kernel) (by decide +kernel)
set_option maxRecDepth 20000 in
theorem gq_X11_value_X11_gives0_1_781 : GoodIn wq_X11_value (wsV RX11 781 RX11 yX11_gives0 wq_X11_gives0_1) := goodIn_app (goodIn_r _ [4, 5, 6, 7] (by decide +kernel) (by decide +kernel)) (gq_X11_value_X11_gives0_1_781_0 : GoodIn wq_X11_value wq_X11_gives0_1)
set_option maxHeartbeats 4000000 in
set_option maxRecDepth 100000 in
theorem cq_X11_value (l : Launch) (dC : Nat → ClassId) (dI : Nat → Nat → Nat) (cB cI cJ cZ : ClassId) (h0 : Nat) (fa0 : Nat → Nat) (sz : Nat) : Met l yX11_value wq_X11_value ({ frames := 1, cells := 0, slots := 0, locals := 23 }) (va_Pc [.ref h0] (pq_W (dC, dI) vwCl (tyQ cB cI cJ cZ) [(h0, .inr (11, mo0 fa0))] sz)) (va_Qi (fun (r : Int32) (_ : SQ) => r = (-1)) (fun u => pq_B (dC, dI) vwCl [(h0, .inr (11, mo0 fa0))] (va_A [(h0, .inr (11, mo0 fa0))] sz)) (va_A [(h0, .inr (11, mo0 fa0))] sz)) 0 0 (va_A [(h0, .inr (11, mo0 fa0))] sz) := by
  refine Met.ofW (cc := cX11_value) (maxL := 1) (ret := (some .int)) (by decide) rfl ?_
  intro p e s m args below meth c s₁ B hml hv
  obtain ⟨rfl, hsz, hP, hK, hD0⟩ := hv
  have hx := B.exec
  have hb := B.bytes
  have hr := B.returns
  have hts := atoms_spec (ws := wq_X11_value) B.pre
  have hown : s.vm.findClass RX11 = some m.cls := findClass_of_methodNamed B.named
  have hlocks := B.notSynchronized
  subst hsz
  have hD := hD0.self (sz := s.heap.size)
  generalize hAe : va_A [(h0, .inr (11, mo0 fa0))] s.heap.size = A at hD ⊢
  have hA : ∀ q : Nat, s.heap.size ≤ q → A q := fun q h => by rw [← hAe]; exact Or.inr h
  have hS : va_S A s.heap s.heap [] := va_S.rf
  have hP : va_P (dC, dI) vwCl [(h0, .inr (11, mo0 fa0))] s.heap := hP
  obtain ⟨H, hH⟩ : ∃ H, H = s.heap := ⟨_, rfl⟩
  rw [← hH] at hP
  have hS : va_S A s.heap H [] := by rw [hH]; exact hS
  have hl := lv_entry ([.ref h0]) (n := 1) (Nat.le_of_ble_eq_true rfl)
  rw [lg_entry_eq]
  generalize (lg_sl ([.ref h0]) ++ List.replicate (1 - (lg_sl ([.ref h0])).length) Slot.unset).toArray = ls at hl ⊢
  have hl : lv_has ls 1 [(0, .ref h0)] := hl
  refine pq_heap hH ?_
  refine lv_aload_n hx hb dX11_value_0 rfl (lv_at hl 0 rfl) ?_
  refine lv_aload_n hx hb dX11_value_1 rfl (lv_at hl 0 rfl) ?_
  refine va_get (D := (dC, dI)) (ci := 11) (v := .ref (fa0 66)) (C := RX11) (T := TX11) (N := 122) hx hb hts iq_X11_value_X11 hown hK hP 0 rfl rfl 106 (by decide) (hts (Cond.fieldLink RX11 224 "CodePressModel" "askedValue" "[I") (List.mem_of_getElem? (i := 1) rfl)) (fun _ h9 => h9) rfl dX11_value_2 ?_
  refine lv_aload_n hx hb dX11_value_5 rfl (lv_at hl 0 rfl) ?_
  refine va_get (D := (dC, dI)) (ci := 11) (v := .int (-1)) (C := RX11) (T := TX11) (N := 122) hx hb hts iq_X11_value_X11 hown hK hP 0 rfl rfl 107 (by decide) (hts (Cond.fieldLink RX11 227 "CodePressModel" "askedValues" "I") (List.mem_of_getElem? (i := 2) rfl)) (fun _ h9 => h9) rfl dX11_value_6 ?_
  refine pq_ci (wr := [(h0, .inr (11, mo0 fa0))]) (W1 := (fun u => [])) (va_runV (As := [.ref (fa0 66), .int (-1)]) (rest := []) ⟨hx, hb, hml, hown, hts⟩ (cq_X11_gives0_1 l dC dI cB cI cJ cZ h0 fa0 H.size) (cwV 2 hts gq_X11_value_X11_gives0_1_781 rfl rfl rfl (by decide +kernel) ⟨(by decide +kernel), (by decide +kernel)⟩) ⟨pq_blind, va_recv hK hP (ci := 11) (q0 := 0) rfl rfl, pq_pre hK hP hD [] rfl rfl⟩ rfl rfl hl.1 rfl (lv_room (Nat.le_of_ble_eq_true rfl)) dX11_value_9 ⟨(by decide +kernel), (by decide +kernel)⟩) hP hD hS hA [] [0] rfl rfl rfl (by decide) (fun r2 u1 H locs hw hP hD hS => ?_)
  subst hw
  have hR9 : pq_R (dC, dI) vwCl A [(h0, .inr (11, mo0 fa0))] H := ⟨hP, hD⟩
  have hP := hR9.1
  have hD := hR9.2
  refine W.widen (k := 0) (n := 0) (by decide +kernel) (by decide +kernel) ?_
  have hP9 := pq_P.pick (wc := [(h0, .inr (11, mo0 fa0))]) hP [0] rfl
  have hD9 := hD.sub (ws' := [(h0, .inr (11, mo0 fa0))]) [0] (by decide) rfl
  refine W.widen (k := 0) (n := 0) (by decide +kernel) (by decide +kernel) ?_
  exact W.iret (v := (-1)) hx hb hr (fun t ht hW => ⟨⟨(-1), sq_u [] [], rfl, rfl, pq_B.of ht hP9 hD9⟩, hS.F ht⟩) hS.2.2 dX11_value_12
def wq_X11_out : List Cond := Cond.code yX11_out cX11_out 2 (some .int) :: (([] : List Cond))
set_option maxHeartbeats 4000000 in
set_option maxRecDepth 100000 in
theorem cq_X11_out (l : Launch) (dC : Nat → ClassId) (dI : Nat → Nat → Nat) (cB cI cJ cZ : ClassId) (a0 : Nat) (x0 : Int32) (sz : Nat) (k1 : x0 < 0) : Met l yX11_out wq_X11_out ({ frames := 0, cells := 0, slots := 0, locals := 0 }) (va_Pc [.ref a0, .int x0] (pq_W (dC, dI) vwCl (tyQ cB cI cJ cZ) [] sz)) (va_Qi (fun (r : Int32) (_ : SQ) => r = (-1)) (fun u => pq_B (dC, dI) vwCl [] (va_A [] sz)) (va_A [] sz)) 0 0 (va_A [] sz) := by
  refine Met.ofW (cc := cX11_out) (maxL := 2) (ret := (some .int)) (by decide) rfl ?_
  intro p e s m args below meth c s₁ B hml hv
  obtain ⟨rfl, hsz, hP, hK, hD0⟩ := hv
  have hx := B.exec
  have hb := B.bytes
  have hr := B.returns
  have hts := atoms_spec (ws := wq_X11_out) B.pre
  have hown : s.vm.findClass RX11 = some m.cls := findClass_of_methodNamed B.named
  have hlocks := B.notSynchronized
  subst hsz
  have hD := hD0.self (sz := s.heap.size)
  generalize hAe : va_A [] s.heap.size = A at hD ⊢
  have hA : ∀ q : Nat, s.heap.size ≤ q → A q := fun q h => by rw [← hAe]; exact Or.inr h
  have hS : va_S A s.heap s.heap [] := va_S.rf
  have hP : va_P (dC, dI) vwCl [] s.heap := hP
  obtain ⟨H, hH⟩ : ∃ H, H = s.heap := ⟨_, rfl⟩
  rw [← hH] at hP
  have hS : va_S A s.heap H [] := by rw [hH]; exact hS
  have hl := lv_entry ([.ref a0, .int x0]) (n := 2) (Nat.le_of_ble_eq_true rfl)
  rw [lg_entry_eq]
  generalize (lg_sl ([.ref a0, .int x0]) ++ List.replicate (2 - (lg_sl ([.ref a0, .int x0])).length) Slot.unset).toArray = ls at hl ⊢
  have hl : lv_has ls 2 [(0, .ref a0), (1, .int x0)] := hl
  refine pq_heap hH ?_
  refine lv_iload_n hx hb dX11_out_0 rfl (lv_at hl 1 rfl) ?_
  refine lv_if_lt (tgt := 21) hx hb dX11_out_1 (by decide) (fun _ => ?_) (fun c_ => absurd k1 c_)
  refine lv_iconst (v := (-1)) hx hb dX11_out_21 (by decide) ?_
  have hP9 := pq_P.pick (wc := []) hP [] rfl
  have hD9 := hD.sub (ws' := []) [] (by decide) rfl
  refine W.widen (k := 0) (n := 0) (by decide +kernel) (by decide +kernel) ?_
  exact W.iret (v := (-1)) hx hb hr (fun t ht hW => ⟨⟨(-1), sq_u [] [], rfl, rfl, pq_B.of ht hP9 hD9⟩, hS.F ht⟩) hS.2.2 dX11_out_22
def wq_X11_out_1_r1 : List Cond := [Cond.fieldLink RX11 778 "CodePressModel" "outs" "I"]
def wq_X11_out_1 : List Cond := Cond.code yX11_out cX11_out 2 (some .int) :: (wq_X11_out_1_r1 ++ wsX110)
theorem iq_X11_out_1_X11 : ∀ w ∈ wsX110, w ∈ wq_X11_out_1 := fun _ h => List.mem_cons_of_mem _ (List.mem_append_right _ h)
set_option maxHeartbeats 4000000 in
set_option maxRecDepth 100000 in
theorem cq_X11_out_1 (l : Launch) (dC : Nat → ClassId) (dI : Nat → Nat → Nat) (cB cI cJ cZ : ClassId) (h0 : Nat) (x0 : Int32) (fa0 : Nat → Nat) (sz : Nat) (k1 : ¬ x0 < 0) (k2 : 0 ≤ x0) : Met l yX11_out wq_X11_out_1 ({ frames := 0, cells := 0, slots := 0, locals := 0 }) (va_Pc [.ref h0, .int x0] (pq_W (dC, dI) vwCl (tyQ cB cI cJ cZ) [(h0, .inr (11, mo0 fa0))] sz)) (va_Qi (fun (r : Int32) (_ : SQ) => r = (-1)) (fun u => pq_B (dC, dI) vwCl [(h0, .inr (11, mo0 fa0))] (va_A [(h0, .inr (11, mo0 fa0))] sz)) (va_A [(h0, .inr (11, mo0 fa0))] sz)) 0 0 (va_A [(h0, .inr (11, mo0 fa0))] sz) := by
  refine Met.ofW (cc := cX11_out) (maxL := 2) (ret := (some .int)) (by decide) rfl ?_
  intro p e s m args below meth c s₁ B hml hv
  obtain ⟨rfl, hsz, hP, hK, hD0⟩ := hv
  have hx := B.exec
  have hb := B.bytes
  have hr := B.returns
  have hts := atoms_spec (ws := wq_X11_out_1) B.pre
  have hown : s.vm.findClass RX11 = some m.cls := findClass_of_methodNamed B.named
  have hlocks := B.notSynchronized
  subst hsz
  have hD := hD0.self (sz := s.heap.size)
  generalize hAe : va_A [(h0, .inr (11, mo0 fa0))] s.heap.size = A at hD ⊢
  have hA : ∀ q : Nat, s.heap.size ≤ q → A q := fun q h => by rw [← hAe]; exact Or.inr h
  have hS : va_S A s.heap s.heap [] := va_S.rf
  have hP : va_P (dC, dI) vwCl [(h0, .inr (11, mo0 fa0))] s.heap := hP
  obtain ⟨H, hH⟩ : ∃ H, H = s.heap := ⟨_, rfl⟩
  rw [← hH] at hP
  have hS : va_S A s.heap H [] := by rw [hH]; exact hS
  have hl := lv_entry ([.ref h0, .int x0]) (n := 2) (Nat.le_of_ble_eq_true rfl)
  rw [lg_entry_eq]
  generalize (lg_sl ([.ref h0, .int x0]) ++ List.replicate (2 - (lg_sl ([.ref h0, .int x0])).length) Slot.unset).toArray = ls at hl ⊢
  have hl : lv_has ls 2 [(0, .ref h0), (1, .int x0)] := hl
  refine pq_heap hH ?_
  refine lv_iload_n hx hb dX11_out_0 rfl (lv_at hl 1 rfl) ?_
  refine lv_if_lt (tgt := 21) hx hb dX11_out_1 (by decide) (fun c_ => absurd c_ k1) (fun _ => ?_)
  refine lv_iload_n hx hb dX11_out_4 rfl (lv_at hl 1 rfl) ?_
  refine lv_aload_n hx hb dX11_out_5 rfl (lv_at hl 0 rfl) ?_
  refine va_get (D := (dC, dI)) (ci := 11) (v := .int 0) (C := RX11) (T := TX11) (N := 122) hx hb hts iq_X11_out_1_X11 hown hK hP 0 rfl rfl 101 (by decide) (hts (Cond.fieldLink RX11 778 "CodePressModel" "outs" "I") (List.mem_of_getElem? (i := 1) rfl)) (fun _ h9 => h9) rfl dX11_out_6 ?_
  refine lv_icmp_ge (tgt := 21) hx hb dX11_out_9 (by decide) (fun _ => ?_) (fun c_ => absurd k2 c_)
  refine lv_iconst (v := (-1)) hx hb dX11_out_21 (by decide) ?_
  have hP9 := pq_P.pick (wc := [(h0, .inr (11, mo0 fa0))]) hP [0] rfl
  have hD9 := hD.sub (ws' := [(h0, .inr (11, mo0 fa0))]) [0] (by decide) rfl
  refine W.widen (k := 0) (n := 0) (by decide +kernel) (by decide +kernel) ?_
  exact W.iret (v := (-1)) hx hb hr (fun t ht hW => ⟨⟨(-1), sq_u [] [], rfl, rfl, pq_B.of ht hP9 hD9⟩, hS.F ht⟩) hS.2.2 dX11_out_22
def wq_X11_count_r1 : List Cond := [Cond.fieldLink RX11 454 "CodePressModel" "defs" "I"]
def wq_X11_count : List Cond := Cond.code yX11_count cX11_count 2 (some .int) :: (wq_X11_count_r1 ++ wsX110)
theorem iq_X11_count_X11 : ∀ w ∈ wsX110, w ∈ wq_X11_count := fun _ h => List.mem_cons_of_mem _ (List.mem_append_right _ h)
set_option maxHeartbeats 4000000 in
set_option maxRecDepth 100000 in
theorem cq_X11_count (l : Launch) (dC : Nat → ClassId) (dI : Nat → Nat → Nat) (cB cI cJ cZ : ClassId) (h0 : Nat) (fa0 : Nat → Nat) (sz : Nat) : Met l yX11_count wq_X11_count ({ frames := 0, cells := 0, slots := 0, locals := 0 }) (va_Pc [.ref h0, .int 0] (pq_W (dC, dI) vwCl (tyQ cB cI cJ cZ) [(h0, .inr (11, mo0 fa0))] sz)) (va_Qi (fun (r : Int32) (_ : SQ) => r = 0) (fun u => pq_B (dC, dI) vwCl [(h0, .inr (11, mo0 fa0))] (va_A [(h0, .inr (11, mo0 fa0))] sz)) (va_A [(h0, .inr (11, mo0 fa0))] sz)) 0 0 (va_A [(h0, .inr (11, mo0 fa0))] sz) := by
  refine Met.ofW (cc := cX11_count) (maxL := 2) (ret := (some .int)) (by decide) rfl ?_
  intro p e s m args below meth c s₁ B hml hv
  obtain ⟨rfl, hsz, hP, hK, hD0⟩ := hv
  have hx := B.exec
  have hb := B.bytes
  have hr := B.returns
  have hts := atoms_spec (ws := wq_X11_count) B.pre
  have hown : s.vm.findClass RX11 = some m.cls := findClass_of_methodNamed B.named
  have hlocks := B.notSynchronized
  subst hsz
  have hD := hD0.self (sz := s.heap.size)
  generalize hAe : va_A [(h0, .inr (11, mo0 fa0))] s.heap.size = A at hD ⊢
  have hA : ∀ q : Nat, s.heap.size ≤ q → A q := fun q h => by rw [← hAe]; exact Or.inr h
  have hS : va_S A s.heap s.heap [] := va_S.rf
  have hP : va_P (dC, dI) vwCl [(h0, .inr (11, mo0 fa0))] s.heap := hP
  obtain ⟨H, hH⟩ : ∃ H, H = s.heap := ⟨_, rfl⟩
  rw [← hH] at hP
  have hS : va_S A s.heap H [] := by rw [hH]; exact hS
  have hl := lv_entry ([.ref h0, .int 0]) (n := 2) (Nat.le_of_ble_eq_true rfl)
  rw [lg_entry_eq]
  generalize (lg_sl ([.ref h0, .int 0]) ++ List.replicate (2 - (lg_sl ([.ref h0, .int 0])).length) Slot.unset).toArray = ls at hl ⊢
  have hl : lv_has ls 2 [(0, .ref h0), (1, .int 0)] := hl
  refine pq_heap hH ?_
  refine lv_iload_n hx hb dX11_count_0 rfl (lv_at hl 1 rfl) ?_
  refine lv_if_ne (tgt := 11) hx hb dX11_count_1 (by decide) (fun c_ => absurd (by decide) c_) (fun _ => ?_)
  refine lv_aload_n hx hb dX11_count_4 rfl (lv_at hl 0 rfl) ?_
  refine va_get (D := (dC, dI)) (ci := 11) (v := .int 0) (C := RX11) (T := TX11) (N := 122) hx hb hts iq_X11_count_X11 hown hK hP 0 rfl rfl 47 (by decide) (hts (Cond.fieldLink RX11 454 "CodePressModel" "defs" "I") (List.mem_of_getElem? (i := 1) rfl)) (fun _ h9 => h9) rfl dX11_count_5 ?_
  refine lv_goto (tgt := 48) hx hb dX11_count_8 (by decide) ?_
  have hP9 := pq_P.pick (wc := [(h0, .inr (11, mo0 fa0))]) hP [0] rfl
  have hD9 := hD.sub (ws' := [(h0, .inr (11, mo0 fa0))]) [0] (by decide) rfl
  refine W.widen (k := 0) (n := 0) (by decide +kernel) (by decide +kernel) ?_
  exact W.iret (v := 0) hx hb hr (fun t ht hW => ⟨⟨0, sq_u [] [], rfl, rfl, pq_B.of ht hP9 hD9⟩, hS.F ht⟩) hS.2.2 dX11_count_48
def wq_X11_count_1_r1 : List Cond := [Cond.fieldLink RX11 7 "CodePressModel" "taped" "I"]
def wq_X11_count_1 : List Cond := Cond.code yX11_count cX11_count 2 (some .int) :: (wq_X11_count_1_r1 ++ wsX110)
theorem iq_X11_count_1_X11 : ∀ w ∈ wsX110, w ∈ wq_X11_count_1 := fun _ h => List.mem_cons_of_mem _ (List.mem_append_right _ h)
set_option maxHeartbeats 4000000 in
set_option maxRecDepth 100000 in
theorem cq_X11_count_1 (l : Launch) (dC : Nat → ClassId) (dI : Nat → Nat → Nat) (cB cI cJ cZ : ClassId) (h0 : Nat) (fa0 : Nat → Nat) (sz : Nat) : Met l yX11_count wq_X11_count_1 ({ frames := 0, cells := 0, slots := 0, locals := 0 }) (va_Pc [.ref h0, .int 1] (pq_W (dC, dI) vwCl (tyQ cB cI cJ cZ) [(h0, .inr (11, mo0 fa0))] sz)) (va_Qi (fun (r : Int32) (_ : SQ) => r = 0) (fun u => pq_B (dC, dI) vwCl [(h0, .inr (11, mo0 fa0))] (va_A [(h0, .inr (11, mo0 fa0))] sz)) (va_A [(h0, .inr (11, mo0 fa0))] sz)) 0 0 (va_A [(h0, .inr (11, mo0 fa0))] sz) := by
  refine Met.ofW (cc := cX11_count) (maxL := 2) (ret := (some .int)) (by decide) rfl ?_
  intro p e s m args below meth c s₁ B hml hv
  obtain ⟨rfl, hsz, hP, hK, hD0⟩ := hv
  have hx := B.exec
  have hb := B.bytes
  have hr := B.returns
  have hts := atoms_spec (ws := wq_X11_count_1) B.pre
  have hown : s.vm.findClass RX11 = some m.cls := findClass_of_methodNamed B.named
  have hlocks := B.notSynchronized
  subst hsz
  have hD := hD0.self (sz := s.heap.size)
  generalize hAe : va_A [(h0, .inr (11, mo0 fa0))] s.heap.size = A at hD ⊢
  have hA : ∀ q : Nat, s.heap.size ≤ q → A q := fun q h => by rw [← hAe]; exact Or.inr h
  have hS : va_S A s.heap s.heap [] := va_S.rf
  have hP : va_P (dC, dI) vwCl [(h0, .inr (11, mo0 fa0))] s.heap := hP
  obtain ⟨H, hH⟩ : ∃ H, H = s.heap := ⟨_, rfl⟩
  rw [← hH] at hP
  have hS : va_S A s.heap H [] := by rw [hH]; exact hS
  have hl := lv_entry ([.ref h0, .int 1]) (n := 2) (Nat.le_of_ble_eq_true rfl)
  rw [lg_entry_eq]
  generalize (lg_sl ([.ref h0, .int 1]) ++ List.replicate (2 - (lg_sl ([.ref h0, .int 1])).length) Slot.unset).toArray = ls at hl ⊢
  have hl : lv_has ls 2 [(0, .ref h0), (1, .int 1)] := hl
  refine pq_heap hH ?_
  refine lv_iload_n hx hb dX11_count_0 rfl (lv_at hl 1 rfl) ?_
  refine lv_if_ne (tgt := 11) hx hb dX11_count_1 (by decide) (fun _ => ?_) (fun c_ => absurd c_ (by decide))
  refine lv_iload_n hx hb dX11_count_11 rfl (lv_at hl 1 rfl) ?_
  refine lv_iconst (v := 1) hx hb dX11_count_12 (by decide) ?_
  refine lv_icmp_ne (tgt := 23) hx hb dX11_count_13 (by decide) (fun c_ => absurd (by decide) c_) (fun _ => ?_)
  refine lv_aload_n hx hb dX11_count_16 rfl (lv_at hl 0 rfl) ?_
  refine va_get (D := (dC, dI)) (ci := 11) (v := .int 0) (C := RX11) (T := TX11) (N := 122) hx hb hts iq_X11_count_1_X11 hown hK hP 0 rfl rfl 1 (by decide) (hts (Cond.fieldLink RX11 7 "CodePressModel" "taped" "I") (List.mem_of_getElem? (i := 1) rfl)) (fun _ h9 => h9) rfl dX11_count_17 ?_
  refine lv_goto (tgt := 48) hx hb dX11_count_20 (by decide) ?_
  have hP9 := pq_P.pick (wc := [(h0, .inr (11, mo0 fa0))]) hP [0] rfl
  have hD9 := hD.sub (ws' := [(h0, .inr (11, mo0 fa0))]) [0] (by decide) rfl
  refine W.widen (k := 0) (n := 0) (by decide +kernel) (by decide +kernel) ?_
  exact W.iret (v := 0) hx hb hr (fun t ht hW => ⟨⟨0, sq_u [] [], rfl, rfl, pq_B.of ht hP9 hD9⟩, hS.F ht⟩) hS.2.2 dX11_count_48
def wq_X11_count_2_r1 : List Cond := [Cond.fieldLink RX11 778 "CodePressModel" "outs" "I"]
def wq_X11_count_2 : List Cond := Cond.code yX11_count cX11_count 2 (some .int) :: (wq_X11_count_2_r1 ++ wsX110)
theorem iq_X11_count_2_X11 : ∀ w ∈ wsX110, w ∈ wq_X11_count_2 := fun _ h => List.mem_cons_of_mem _ (List.mem_append_right _ h)
set_option maxHeartbeats 4000000 in
set_option maxRecDepth 100000 in
theorem cq_X11_count_2 (l : Launch) (dC : Nat → ClassId) (dI : Nat → Nat → Nat) (cB cI cJ cZ : ClassId) (h0 : Nat) (fa0 : Nat → Nat) (sz : Nat) : Met l yX11_count wq_X11_count_2 ({ frames := 0, cells := 0, slots := 0, locals := 0 }) (va_Pc [.ref h0, .int 2] (pq_W (dC, dI) vwCl (tyQ cB cI cJ cZ) [(h0, .inr (11, mo0 fa0))] sz)) (va_Qi (fun (r : Int32) (_ : SQ) => r = 0) (fun u => pq_B (dC, dI) vwCl [(h0, .inr (11, mo0 fa0))] (va_A [(h0, .inr (11, mo0 fa0))] sz)) (va_A [(h0, .inr (11, mo0 fa0))] sz)) 0 0 (va_A [(h0, .inr (11, mo0 fa0))] sz) := by
  refine Met.ofW (cc := cX11_count) (maxL := 2) (ret := (some .int)) (by decide) rfl ?_
  intro p e s m args below meth c s₁ B hml hv
  obtain ⟨rfl, hsz, hP, hK, hD0⟩ := hv
  have hx := B.exec
  have hb := B.bytes
  have hr := B.returns
  have hts := atoms_spec (ws := wq_X11_count_2) B.pre
  have hown : s.vm.findClass RX11 = some m.cls := findClass_of_methodNamed B.named
  have hlocks := B.notSynchronized
  subst hsz
  have hD := hD0.self (sz := s.heap.size)
  generalize hAe : va_A [(h0, .inr (11, mo0 fa0))] s.heap.size = A at hD ⊢
  have hA : ∀ q : Nat, s.heap.size ≤ q → A q := fun q h => by rw [← hAe]; exact Or.inr h
  have hS : va_S A s.heap s.heap [] := va_S.rf
  have hP : va_P (dC, dI) vwCl [(h0, .inr (11, mo0 fa0))] s.heap := hP
  obtain ⟨H, hH⟩ : ∃ H, H = s.heap := ⟨_, rfl⟩
  rw [← hH] at hP
  have hS : va_S A s.heap H [] := by rw [hH]; exact hS
  have hl := lv_entry ([.ref h0, .int 2]) (n := 2) (Nat.le_of_ble_eq_true rfl)
  rw [lg_entry_eq]
  generalize (lg_sl ([.ref h0, .int 2]) ++ List.replicate (2 - (lg_sl ([.ref h0, .int 2])).length) Slot.unset).toArray = ls at hl ⊢
  have hl : lv_has ls 2 [(0, .ref h0), (1, .int 2)] := hl
  refine pq_heap hH ?_
  refine lv_iload_n hx hb dX11_count_0 rfl (lv_at hl 1 rfl) ?_
  refine lv_if_ne (tgt := 11) hx hb dX11_count_1 (by decide) (fun _ => ?_) (fun c_ => absurd c_ (by decide))
  refine lv_iload_n hx hb dX11_count_11 rfl (lv_at hl 1 rfl) ?_
  refine lv_iconst (v := 1) hx hb dX11_count_12 (by decide) ?_
  refine lv_icmp_ne (tgt := 23) hx hb dX11_count_13 (by decide) (fun _ => ?_) (fun c_ => absurd c_ (by decide))
  refine lv_iload_n hx hb dX11_count_23 rfl (lv_at hl 1 rfl) ?_
  refine lv_iconst (v := 2) hx hb dX11_count_24 (by decide) ?_
  refine lv_icmp_ne (tgt := 35) hx hb dX11_count_25 (by decide) (fun c_ => absurd (by decide) c_) (fun _ => ?_)
  refine lv_aload_n hx hb dX11_count_28 rfl (lv_at hl 0 rfl) ?_
  refine va_get (D := (dC, dI)) (ci := 11) (v := .int 0) (C := RX11) (T := TX11) (N := 122) hx hb hts iq_X11_count_2_X11 hown hK hP 0 rfl rfl 101 (by decide) (hts (Cond.fieldLink RX11 778 "CodePressModel" "outs" "I") (List.mem_of_getElem? (i := 1) rfl)) (fun _ h9 => h9) rfl dX11_count_29 ?_
  refine lv_goto (tgt := 48) hx hb dX11_count_32 (by decide) ?_
  have hP9 := pq_P.pick (wc := [(h0, .inr (11, mo0 fa0))]) hP [0] rfl
  have hD9 := hD.sub (ws' := [(h0, .inr (11, mo0 fa0))]) [0] (by decide) rfl
  refine W.widen (k := 0) (n := 0) (by decide +kernel) (by decide +kernel) ?_
  exact W.iret (v := 0) hx hb hr (fun t ht hW => ⟨⟨0, sq_u [] [], rfl, rfl, pq_B.of ht hP9 hD9⟩, hS.F ht⟩) hS.2.2 dX11_count_48
def wq_X11_count_3_r1 : List Cond := [Cond.fieldLink RX11 775 "CodePressModel" "gave" "I"]
def wq_X11_count_3 : List Cond := Cond.code yX11_count cX11_count 2 (some .int) :: (wq_X11_count_3_r1 ++ wsX110)
theorem iq_X11_count_3_X11 : ∀ w ∈ wsX110, w ∈ wq_X11_count_3 := fun _ h => List.mem_cons_of_mem _ (List.mem_append_right _ h)
set_option maxHeartbeats 4000000 in
set_option maxRecDepth 100000 in
theorem cq_X11_count_3 (l : Launch) (dC : Nat → ClassId) (dI : Nat → Nat → Nat) (cB cI cJ cZ : ClassId) (h0 : Nat) (fa0 : Nat → Nat) (sz : Nat) : Met l yX11_count wq_X11_count_3 ({ frames := 0, cells := 0, slots := 0, locals := 0 }) (va_Pc [.ref h0, .int 3] (pq_W (dC, dI) vwCl (tyQ cB cI cJ cZ) [(h0, .inr (11, mo0 fa0))] sz)) (va_Qi (fun (r : Int32) (_ : SQ) => r = 0) (fun u => pq_B (dC, dI) vwCl [(h0, .inr (11, mo0 fa0))] (va_A [(h0, .inr (11, mo0 fa0))] sz)) (va_A [(h0, .inr (11, mo0 fa0))] sz)) 0 0 (va_A [(h0, .inr (11, mo0 fa0))] sz) := by
  refine Met.ofW (cc := cX11_count) (maxL := 2) (ret := (some .int)) (by decide) rfl ?_
  intro p e s m args below meth c s₁ B hml hv
  obtain ⟨rfl, hsz, hP, hK, hD0⟩ := hv
  have hx := B.exec
  have hb := B.bytes
  have hr := B.returns
  have hts := atoms_spec (ws := wq_X11_count_3) B.pre
  have hown : s.vm.findClass RX11 = some m.cls := findClass_of_methodNamed B.named
  have hlocks := B.notSynchronized
  subst hsz
  have hD := hD0.self (sz := s.heap.size)
  generalize hAe : va_A [(h0, .inr (11, mo0 fa0))] s.heap.size = A at hD ⊢
  have hA : ∀ q : Nat, s.heap.size ≤ q → A q := fun q h => by rw [← hAe]; exact Or.inr h
  have hS : va_S A s.heap s.heap [] := va_S.rf
  have hP : va_P (dC, dI) vwCl [(h0, .inr (11, mo0 fa0))] s.heap := hP
  obtain ⟨H, hH⟩ : ∃ H, H = s.heap := ⟨_, rfl⟩
  rw [← hH] at hP
  have hS : va_S A s.heap H [] := by rw [hH]; exact hS
  have hl := lv_entry ([.ref h0, .int 3]) (n := 2) (Nat.le_of_ble_eq_true rfl)
  rw [lg_entry_eq]
  generalize (lg_sl ([.ref h0, .int 3]) ++ List.replicate (2 - (lg_sl ([.ref h0, .int 3])).length) Slot.unset).toArray = ls at hl ⊢
  have hl : lv_has ls 2 [(0, .ref h0), (1, .int 3)] := hl
  refine pq_heap hH ?_
  refine lv_iload_n hx hb dX11_count_0 rfl (lv_at hl 1 rfl) ?_
  refine lv_if_ne (tgt := 11) hx hb dX11_count_1 (by decide) (fun _ => ?_) (fun c_ => absurd c_ (by decide))
  refine lv_iload_n hx hb dX11_count_11 rfl (lv_at hl 1 rfl) ?_
  refine lv_iconst (v := 1) hx hb dX11_count_12 (by decide) ?_
  refine lv_icmp_ne (tgt := 23) hx hb dX11_count_13 (by decide) (fun _ => ?_) (fun c_ => absurd c_ (by decide))
  refine lv_iload_n hx hb dX11_count_23 rfl (lv_at hl 1 rfl) ?_
  refine lv_iconst (v := 2) hx hb dX11_count_24 (by decide) ?_
  refine lv_icmp_ne (tgt := 35) hx hb dX11_count_25 (by decide) (fun _ => ?_) (fun c_ => absurd c_ (by decide))
  refine lv_iload_n hx hb dX11_count_35 rfl (lv_at hl 1 rfl) ?_
  refine lv_iconst (v := 3) hx hb dX11_count_36 (by decide) ?_
  refine lv_icmp_ne (tgt := 47) hx hb dX11_count_37 (by decide) (fun c_ => absurd (by decide) c_) (fun _ => ?_)
  refine lv_aload_n hx hb dX11_count_40 rfl (lv_at hl 0 rfl) ?_
  refine va_get (D := (dC, dI)) (ci := 11) (v := .int 0) (C := RX11) (T := TX11) (N := 122) hx hb hts iq_X11_count_3_X11 hown hK hP 0 rfl rfl 116 (by decide) (hts (Cond.fieldLink RX11 775 "CodePressModel" "gave" "I") (List.mem_of_getElem? (i := 1) rfl)) (fun _ h9 => h9) rfl dX11_count_41 ?_
  refine lv_goto (tgt := 48) hx hb dX11_count_44 (by decide) ?_
  have hP9 := pq_P.pick (wc := [(h0, .inr (11, mo0 fa0))]) hP [0] rfl
  have hD9 := hD.sub (ws' := [(h0, .inr (11, mo0 fa0))]) [0] (by decide) rfl
  refine W.widen (k := 0) (n := 0) (by decide +kernel) (by decide +kernel) ?_
  exact W.iret (v := 0) hx hb hr (fun t ht hW => ⟨⟨0, sq_u [] [], rfl, rfl, pq_B.of ht hP9 hD9⟩, hS.F ht⟩) hS.2.2 dX11_count_48
def wq_X11_count_4 : List Cond := Cond.code yX11_count cX11_count 2 (some .int) :: (([] : List Cond))
set_option maxHeartbeats 4000000 in
set_option maxRecDepth 100000 in
theorem cq_X11_count_4 (l : Launch) (dC : Nat → ClassId) (dI : Nat → Nat → Nat) (cB cI cJ cZ : ClassId) (a0 : Nat) (x0 : Int32) (sz : Nat) (k0 : ¬ x0 = 0) (k1 : ¬ x0 = 1) (k2 : ¬ x0 = 2) (k3 : ¬ x0 = 3) (k5 : x0.toInt < 0 ∨ 3 < x0.toInt) : Met l yX11_count wq_X11_count_4 ({ frames := 0, cells := 0, slots := 0, locals := 0 }) (va_Pc [.ref a0, .int x0] (pq_W (dC, dI) vwCl (tyQ cB cI cJ cZ) [] sz)) (va_Qi (fun (r : Int32) (_ : SQ) => r = (-1)) (fun u => pq_B (dC, dI) vwCl [] (va_A [] sz)) (va_A [] sz)) 0 0 (va_A [] sz) := by
  refine Met.ofW (cc := cX11_count) (maxL := 2) (ret := (some .int)) (by decide) rfl ?_
  intro p e s m args below meth c s₁ B hml hv
  obtain ⟨rfl, hsz, hP, hK, hD0⟩ := hv
  have hx := B.exec
  have hb := B.bytes
  have hr := B.returns
  have hts := atoms_spec (ws := wq_X11_count_4) B.pre
  have hown : s.vm.findClass RX11 = some m.cls := findClass_of_methodNamed B.named
  have hlocks := B.notSynchronized
  subst hsz
  have hD := hD0.self (sz := s.heap.size)
  generalize hAe : va_A [] s.heap.size = A at hD ⊢
  have hA : ∀ q : Nat, s.heap.size ≤ q → A q := fun q h => by rw [← hAe]; exact Or.inr h
  have hS : va_S A s.heap s.heap [] := va_S.rf
  have hP : va_P (dC, dI) vwCl [] s.heap := hP
  obtain ⟨H, hH⟩ : ∃ H, H = s.heap := ⟨_, rfl⟩
  rw [← hH] at hP
  have hS : va_S A s.heap H [] := by rw [hH]; exact hS
  have hl := lv_entry ([.ref a0, .int x0]) (n := 2) (Nat.le_of_ble_eq_true rfl)
  rw [lg_entry_eq]
  generalize (lg_sl ([.ref a0, .int x0]) ++ List.replicate (2 - (lg_sl ([.ref a0, .int x0])).length) Slot.unset).toArray = ls at hl ⊢
  have hl : lv_has ls 2 [(0, .ref a0), (1, .int x0)] := hl
  refine pq_heap hH ?_
  refine lv_iload_n hx hb dX11_count_0 rfl (lv_at hl 1 rfl) ?_
  refine lv_if_ne (tgt := 11) hx hb dX11_count_1 (by decide) (fun _ => ?_) (fun c_ => absurd c_ k0)
  refine lv_iload_n hx hb dX11_count_11 rfl (lv_at hl 1 rfl) ?_
  refine lv_iconst (v := 1) hx hb dX11_count_12 (by decide) ?_
  refine lv_icmp_ne (tgt := 23) hx hb dX11_count_13 (by decide) (fun _ => ?_) (fun c_ => absurd c_ k1)
  refine lv_iload_n hx hb dX11_count_23 rfl (lv_at hl 1 rfl) ?_
  refine lv_iconst (v := 2) hx hb dX11_count_24 (by decide) ?_
  refine lv_icmp_ne (tgt := 35) hx hb dX11_count_25 (by decide) (fun _ => ?_) (fun c_ => absurd c_ k2)
  refine lv_iload_n hx hb dX11_count_35 rfl (lv_at hl 1 rfl) ?_
  refine lv_iconst (v := 3) hx hb dX11_count_36 (by decide) ?_
  refine lv_icmp_ne (tgt := 47) hx hb dX11_count_37 (by decide) (fun _ => ?_) (fun c_ => absurd c_ k3)
  refine lv_iconst (v := (-1)) hx hb dX11_count_47 (by decide) ?_
  have hP9 := pq_P.pick (wc := []) hP [] rfl
  have hD9 := hD.sub (ws' := []) [] (by decide) rfl
  refine W.widen (k := 0) (n := 0) (by decide +kernel) (by decide +kernel) ?_
  exact W.iret (v := (-1)) hx hb hr (fun t ht hW => ⟨⟨(-1), sq_u [] [], rfl, rfl, pq_B.of ht hP9 hD9⟩, hS.F ht⟩) hS.2.2 dX11_count_48
