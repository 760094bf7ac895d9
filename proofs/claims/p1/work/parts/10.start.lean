theorem pq_blindN {av : List Value} {D : va_G} {cl : List vw_C} {tys : List (ClassId × FieldType)} {ws : va_W} {sz : Nat} {aK aV : Nat} {f : Nat → Int32} {sv : Value} : FrameBlind (va_Pc av (pq_WN D cl tys ws sz aK aV f sv)) := by
  intro a U g mk q
  obtain ⟨q0, qW, qN⟩ := q
  exact ⟨q0, (pq_blindS (av := av) a U g mk ⟨q0, qW⟩).2, cp_N.same (u := U) rfl qN⟩
theorem pq_preN {s : State} {H : Heap} {locs : List Loc} {av : List Value} {D : va_G} {cl : List vw_C} {tys : List (ClassId × FieldType)} {ws wc : va_W} {A : Nat → Prop} {aK aV : Nat} {f : Nat → Int32} {sv : Value} (hK : va_K D cl tys s) (hP : va_P D cl ws H) (hD : va_D A ws) (hS : va_S A s.heap H locs) (hA : ∀ q : Nat, s.heap.size ≤ q → A q) (hR : vk_R RX2 32 "def fn rec let in if then else close run open fst snd true false int bool code box " aK s) (hF : sq_F aK aV f sv A s s.heap) (hN : cp_N s) (isC : List Nat) (hC : isC.map (fun i => ws[i]?) = wc.map some) (hn : va_nd isC = true) : ∀ U : State, U.heap = H → s.WarmedH U.vm → va_Pc av (pq_WN D cl tys wc H.size aK aV f sv) av.toArray U := by
  intro U hU hW
  obtain ⟨h1, h2⟩ := pq_preS (av := av) hK hP hD hS hA hR hF isC hC hn U hU hW
  exact ⟨h1, h2, cp_N.warm hW hN⟩
theorem pq_arr {args : Array Value} {s : State} {ty : FieldType} (h : (Cond.arrayClass ty).before args s = true) : ∃ cA : ClassId, ArrOfT s cA ty ∧ s.vm.findClass ("[" ++ ty.toString) = some cA := by
  obtain ⟨c, k, comp, h1, h2, h3⟩ := Cond.arrayClass_spec h
  exact ⟨c, fun n z => ⟨fun k h => (by cases h), k, h2, comp, h3⟩, h1⟩
theorem pq_fl {L : List Cond} {k n : Nat} {f : Nat → Cond} (h : (L.drop k).take n = (List.range n).map f) : ∀ j, j < n → f j ∈ L := fun j hj => List.mem_of_mem_drop (List.mem_of_mem_take (h ▸ List.mem_map.mpr ⟨j, List.mem_range.mpr hj, rfl⟩))
set_option maxHeartbeats 4000000 in
set_option maxRecDepth 100000 in
theorem law_K {args : Array Value} {s : State} (hts : ∀ w ∈ lw_tbl, w.before args s = true) : ∃ (dC : Nat → ClassId) (dI : Nat → Nat → Nat) (cB cI cJ cZ : ClassId), va_K (dC, dI) vwCl (tyQ cB cI cJ cZ) s := by
  obtain ⟨c0, i0, k0⟩ := u_known (C := RX0) (T := TX0) (N := 5) (n := 5) hts (fun w h => (law_uX0 w h).1) (hts (.instantiable RX0 5) (by decide +kernel))
  obtain ⟨c1, i1, k1⟩ := u_known (C := RX1) (T := TX1) (N := 12) (n := 12) hts (fun w h => (law_uX1 w h).1) (hts (.instantiable RX1 12) (by decide +kernel))
  obtain ⟨c2, i2, k2⟩ := u_known (C := RX2) (T := TX2) (N := 12) (n := 12) hts (fun w h => (law_uX2 w h).1) (hts (.instantiable RX2 12) (by decide +kernel))
  obtain ⟨c3, i3, k3⟩ := u_known (C := RX3) (T := TX3) (N := 13) (n := 13) hts (fun w h => (law_uX3 w h).1) (hts (.instantiable RX3 13) (by decide +kernel))
  obtain ⟨c4, i4, k4⟩ := u_known (C := RX4) (T := TX4) (N := 13) (n := 13) hts (fun w h => (law_uX4 w h).1) (hts (.instantiable RX4 13) (by decide +kernel))
  obtain ⟨c5, i5, k5⟩ := u_known (C := RX5) (T := TX5) (N := 11) (n := 11) hts (fun w h => (law_uX5 w h).1) (hts (.instantiable RX5 11) (by decide +kernel))
  obtain ⟨c6, i6, k6⟩ := u_known (C := RX6) (T := TX6) (N := 15) (n := 15) hts (fun w h => (law_uX6 w h).1) (hts (.instantiable RX6 15) (by decide +kernel))
  obtain ⟨c7, i7, k7⟩ := u_known (C := RX7) (T := TX7) (N := 12) (n := 12) hts (fun w h => (law_uX7 w h).1) (hts (.instantiable RX7 12) (by decide +kernel))
  obtain ⟨c8, i8, k8⟩ := u_known (C := RX8) (T := TX8) (N := 7) (n := 7) hts (fun w h => (law_uX8 w h).1) (hts (.instantiable RX8 7) (by decide +kernel))
  obtain ⟨c9, i9, k9⟩ := u_known (C := RX9) (T := TX9) (N := 8) (n := 8) hts (fun w h => (law_uX9 w h).1) (hts (.instantiable RX9 8) (by decide +kernel))
  obtain ⟨c10, i10, k10⟩ := u_known (C := RX10) (T := TX10) (N := 19) (n := 19) hts (fun w h => (law_uX10 w h).1) (hts (.instantiable RX10 19) (by decide +kernel))
  obtain ⟨c11, i11, k11⟩ := u_known (C := RX11) (T := TX11) (N := 122) (n := 122) hts (fun w h => (law_uX11 w h).1) (hts (.instantiable RX11 122) (by decide +kernel))
  obtain ⟨cB, aB, fB⟩ := pq_arr (hts (.arrayClass .byte) (by decide +kernel))
  obtain ⟨cI, aI, fI⟩ := pq_arr (hts (.arrayClass .int) (by decide +kernel))
  obtain ⟨cJ, aJ, fJ⟩ := pq_arr (hts (.arrayClass .long) (by decide +kernel))
  obtain ⟨cZ, aZ, fZ⟩ := pq_arr (hts (.arrayClass .boolean) (by decide +kernel))
  refine ⟨fun k => [c0, c1, c2, c3, c4, c5, c6, c7, c8, c9, c10, c11].getD k c0, fun k => [i0, i1, i2, i3, i4, i5, i6, i7, i8, i9, i10, i11].getD k i0, cB, cI, cJ, cZ, ?_, ?_⟩
  · intro k q hq
    match k, hq with
    | 0, hq => cases hq; exact k0
    | 1, hq => cases hq; exact k1
    | 2, hq => cases hq; exact k2
    | 3, hq => cases hq; exact k3
    | 4, hq => cases hq; exact k4
    | 5, hq => cases hq; exact k5
    | 6, hq => cases hq; exact k6
    | 7, hq => cases hq; exact k7
    | 8, hq => cases hq; exact k8
    | 9, hq => cases hq; exact k9
    | 10, hq => cases hq; exact k10
    | 11, hq => cases hq; exact k11
    | k + 12, hq => simp [vwCl] at hq
  · intro k q hq
    match k, hq with
    | 0, hq => cases hq; exact ⟨aB, fB⟩
    | 1, hq => cases hq; exact ⟨aI, fI⟩
    | 2, hq => cases hq; exact ⟨aJ, fJ⟩
    | 3, hq => cases hq; exact ⟨aZ, fZ⟩
    | k + 4, hq => simp [tyQ] at hq
set_option maxRecDepth 100000 in
theorem law_sm1 : ∀ j, j < 83 → Cond.eq (.elem (.field (.string "CodePress$Lexer" 32) "java/lang/String" "value" "[B") (.int (Int32.ofNat j))) (.int (bq j)) ∈ flatC (Jvm.Cond.and given_1 narrow_1) := pq_fl (k := 13) (n := 83) (f := fun j => Cond.eq (.elem (.field (.string "CodePress$Lexer" 32) "java/lang/String" "value" "[B") (.int (Int32.ofNat j))) (.int (bq j))) (by decide +kernel)
set_option maxHeartbeats 4000000 in
set_option maxRecDepth 100000 in
theorem law_S1 {args : Array Value} {s : State} {A : Nat → Prop} {sv : Value} (hgv : (Jvm.Cond.and given_1 narrow_1).before args s = true) (hts : ∀ w ∈ lw_tbl, w.before args s = true) (hA : ∀ a : Nat, a < s.heap.size → ¬ A a) (hZ : va_Z "jdk/internal/util/Preconditions" "SIOOBE_FORMATTER" "Ljava/util/function/BiFunction;" sv A s s.heap) : ∃ aK aV : Nat, vk_R RX2 32 "def fn rec let in if then else close run open fst snd true false int bool code box " aK s ∧ sq_F aK aV bq sv A s s.heap := by
  have hs := flat_of_before _ hgv
  obtain ⟨adK, adV, hS, hE⟩ := vk_Sof (args := args) (s := s) (N := 1) (tm := fun _ => Term.string "CodePress$Lexer" 32) (len := [83]) (byt := [bqL]) (A := A) (fun i hi => by obtain rfl : i = 0 := (by omega); decide) (fun i hi => hs _ (by decide +kernel)) (fun i hi => hs _ (by decide +kernel)) (fun i hi => hs _ (by decide +kernel)) (fun i hi => by obtain rfl : i = 0 := (by omega); exact hs _ (by decide +kernel)) (fun i hi j hj => by obtain rfl : i = 0 := (by omega); exact hs _ (law_sm1 j hj)) (fun i j hi hj h => absurd (show i = j by omega) h) hA
  obtain ⟨h1, h2, h3, h4⟩ := hS.1 0 (by decide)
  have hZ1 : va_Z "java/lang/String" "COMPACT_STRINGS" "Z" (.int 1) A s s.heap := va_Zof (hts (.laysStatic "java/lang/String" "COMPACT_STRINGS" "Z") (by decide +kernel)) (hts (.initialized "java/lang/String") (by decide +kernel)) (va_eqt (hs (.eq (.static "java/lang/String" "COMPACT_STRINGS" "Z") (.int 1)) (by decide +kernel))) hA
  exact ⟨adK 0, adV 0, vk_R.of (A := args) (hts (.stringRef "CodePress$Lexer" 32 "def fn rec let in if then else close run open fst snd true false int bool code box ") (by decide +kernel)) (hE 0 (by decide)), h1, h2, h3, h4, hZ1, hZ⟩
set_option maxRecDepth 100000 in
theorem law_sm2 : ∀ j, j < 83 → Cond.eq (.elem (.field (.string "CodePressModel" 245) "java/lang/String" "value" "[B") (.int (Int32.ofNat j))) (.int (bq j)) ∈ flatC (Jvm.Cond.and given_1 narrow_1) := pq_fl (k := 331) (n := 83) (f := fun j => Cond.eq (.elem (.field (.string "CodePressModel" 245) "java/lang/String" "value" "[B") (.int (Int32.ofNat j))) (.int (bq j))) (by decide +kernel)
set_option maxHeartbeats 4000000 in
set_option maxRecDepth 100000 in
theorem law_S2 {args : Array Value} {s : State} {A : Nat → Prop} {sv : Value} (hgv : (Jvm.Cond.and given_1 narrow_1).before args s = true) (hts : ∀ w ∈ lw_tbl, w.before args s = true) (hA : ∀ a : Nat, a < s.heap.size → ¬ A a) (hZ : va_Z "jdk/internal/util/Preconditions" "SIOOBE_FORMATTER" "Ljava/util/function/BiFunction;" sv A s s.heap) : ∃ aK aV : Nat, vk_R RX11 245 "def fn rec let in if then else close run open fst snd true false int bool code box " aK s ∧ sq_F aK aV bq sv A s s.heap := by
  have hs := flat_of_before _ hgv
  obtain ⟨adK, adV, hS, hE⟩ := vk_Sof (args := args) (s := s) (N := 1) (tm := fun _ => Term.string "CodePressModel" 245) (len := [83]) (byt := [bqL]) (A := A) (fun i hi => by obtain rfl : i = 0 := (by omega); decide) (fun i hi => hs _ (by decide +kernel)) (fun i hi => hs _ (by decide +kernel)) (fun i hi => hs _ (by decide +kernel)) (fun i hi => by obtain rfl : i = 0 := (by omega); exact hs _ (by decide +kernel)) (fun i hi j hj => by obtain rfl : i = 0 := (by omega); exact hs _ (law_sm2 j hj)) (fun i j hi hj h => absurd (show i = j by omega) h) hA
  obtain ⟨h1, h2, h3, h4⟩ := hS.1 0 (by decide)
  have hZ1 : va_Z "java/lang/String" "COMPACT_STRINGS" "Z" (.int 1) A s s.heap := va_Zof (hts (.laysStatic "java/lang/String" "COMPACT_STRINGS" "Z") (by decide +kernel)) (hts (.initialized "java/lang/String") (by decide +kernel)) (va_eqt (hs (.eq (.static "java/lang/String" "COMPACT_STRINGS" "Z") (.int 1)) (by decide +kernel))) hA
  exact ⟨adK 0, adV 0, vk_R.of (A := args) (hts (.stringRef "CodePressModel" 245 "def fn rec let in if then else close run open fst snd true false int bool code box ") (by decide +kernel)) (hE 0 (by decide)), h1, h2, h3, h4, hZ1, hZ⟩
