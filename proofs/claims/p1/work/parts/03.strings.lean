def wq_J0_coder_7d493_r1 : List Cond := [Cond.fieldLink RJ0 38 "java/lang/String" "COMPACT_STRINGS" "Z", Cond.fieldLink RJ0 15 "java/lang/String" "coder" "B"]
def wq_J0_coder_7d493 : List Cond := Cond.code yJ0_coder_7d493 cJ0_coder_7d493 1 (some .byte) :: (wq_J0_coder_7d493_r1)
set_option maxHeartbeats 4000000 in
set_option maxRecDepth 100000 in
theorem cs_J0_coder_7d493 (l : Launch) (D : va_G) (cl : List vw_C) (aK aV : Nat) (f : Nat → Int32) (sv : Value) (sz : Nat) : Met l yJ0_coder_7d493 wq_J0_coder_7d493 ({ frames := 0, cells := 0, slots := 0, locals := 0 }) (va_Pc [.ref aK] (sq_W aK aV f sv sz)) (va_Qi (fun (r : Int32) (_ : SQ) => r = 0) (fun _ => pq_B D cl [] (va_A [] sz)) (va_A [] sz)) 0 0 (va_A [] sz) := by
  refine Met.ofW (cc := cJ0_coder_7d493) (maxL := 1) (ret := (some .byte)) (by decide) rfl ?_
  intro p e s m args below meth c s₁ B hml hv
  obtain ⟨rfl, hsz, hF⟩ := hv
  have hx := B.exec
  have hb := B.bytes
  have hr := B.returns
  have hts := atoms_spec (ws := wq_J0_coder_7d493) B.pre
  have hown : s.vm.findClass RJ0 = some m.cls := findClass_of_methodNamed B.named
  have hlocks := B.notSynchronized
  subst hsz
  generalize hAe : va_A [] s.heap.size = A at hF ⊢
  have hA : ∀ q : Nat, s.heap.size ≤ q → A q := fun q h => by rw [← hAe]; exact Or.inr h
  have hS : va_S A s.heap s.heap [] := va_S.rf
  obtain ⟨H, hH⟩ : ∃ H, H = s.heap := ⟨_, rfl⟩
  have hS : va_S A s.heap H [] := by rw [hH]; exact hS
  have hl := lv_entry ([.ref aK]) (n := 1) (Nat.le_of_ble_eq_true rfl)
  rw [lg_entry_eq]
  generalize (lg_sl ([.ref aK]) ++ List.replicate (1 - (lg_sl ([.ref aK])).length) Slot.unset).toArray = ls at hl ⊢
  have hl : lv_has ls 1 [(0, .ref aK)] := hl
  refine pq_heap hH ?_
  refine va_gets hx hb hF.2.2.2.2.1 hS hown (hts (Cond.fieldLink RJ0 38 "java/lang/String" "COMPACT_STRINGS" "Z") (List.mem_of_getElem? (i := 1) rfl)) (fun _ h9 => h9) dJ0_coder_7d493_0 ?_
  refine lv_if_eq (tgt := 13) hx hb dJ0_coder_7d493_3 (by decide) (fun c_ => absurd c_ (by decide)) (fun _ => ?_)
  refine lv_aload_n hx hb dJ0_coder_7d493_6 rfl (lv_at hl 0 rfl) ?_
  refine vk_getf hx hb hF.2.1 hS hown (hts (Cond.fieldLink RJ0 15 "java/lang/String" "coder" "B") (List.mem_of_getElem? (i := 2) rfl)) (fun _ h9 => h9) dJ0_coder_7d493_7 ?_
  refine lv_goto (tgt := 14) hx hb dJ0_coder_7d493_10 (by decide) ?_
  refine W.widen (k := 0) (n := 0) (by decide +kernel) (by decide +kernel) ?_
  exact W.zret (v := 0) hx hb hr rfl (fun t ht hW => ⟨⟨0, sq_u [] [], rfl, rfl, pq_B.of ht pq_P0 pq_D0⟩, hS.F ht⟩) hS.2.2 dJ0_coder_7d493_14
def wq_J0_isLatin1_aae02_r1 : List Cond := [Cond.fieldLink RJ0 38 "java/lang/String" "COMPACT_STRINGS" "Z", Cond.fieldLink RJ0 15 "java/lang/String" "coder" "B"]
def wq_J0_isLatin1_aae02 : List Cond := Cond.code yJ0_isLatin1_aae02 cJ0_isLatin1_aae02 1 (some .boolean) :: (wq_J0_isLatin1_aae02_r1)
set_option maxHeartbeats 4000000 in
set_option maxRecDepth 100000 in
theorem cs_J0_isLatin1_aae02 (l : Launch) (D : va_G) (cl : List vw_C) (aK aV : Nat) (f : Nat → Int32) (sv : Value) (sz : Nat) : Met l yJ0_isLatin1_aae02 wq_J0_isLatin1_aae02 ({ frames := 0, cells := 0, slots := 0, locals := 0 }) (va_Pc [.ref aK] (sq_W aK aV f sv sz)) (va_Qi (fun (r : Int32) (_ : SQ) => r = 1) (fun _ => pq_B D cl [] (va_A [] sz)) (va_A [] sz)) 0 0 (va_A [] sz) := by
  refine Met.ofW (cc := cJ0_isLatin1_aae02) (maxL := 1) (ret := (some .boolean)) (by decide) rfl ?_
  intro p e s m args below meth c s₁ B hml hv
  obtain ⟨rfl, hsz, hF⟩ := hv
  have hx := B.exec
  have hb := B.bytes
  have hr := B.returns
  have hts := atoms_spec (ws := wq_J0_isLatin1_aae02) B.pre
  have hown : s.vm.findClass RJ0 = some m.cls := findClass_of_methodNamed B.named
  have hlocks := B.notSynchronized
  subst hsz
  generalize hAe : va_A [] s.heap.size = A at hF ⊢
  have hA : ∀ q : Nat, s.heap.size ≤ q → A q := fun q h => by rw [← hAe]; exact Or.inr h
  have hS : va_S A s.heap s.heap [] := va_S.rf
  obtain ⟨H, hH⟩ : ∃ H, H = s.heap := ⟨_, rfl⟩
  have hS : va_S A s.heap H [] := by rw [hH]; exact hS
  have hl := lv_entry ([.ref aK]) (n := 1) (Nat.le_of_ble_eq_true rfl)
  rw [lg_entry_eq]
  generalize (lg_sl ([.ref aK]) ++ List.replicate (1 - (lg_sl ([.ref aK])).length) Slot.unset).toArray = ls at hl ⊢
  have hl : lv_has ls 1 [(0, .ref aK)] := hl
  refine pq_heap hH ?_
  refine va_gets hx hb hF.2.2.2.2.1 hS hown (hts (Cond.fieldLink RJ0 38 "java/lang/String" "COMPACT_STRINGS" "Z") (List.mem_of_getElem? (i := 1) rfl)) (fun _ h9 => h9) dJ0_isLatin1_aae02_0 ?_
  refine lv_if_eq (tgt := 17) hx hb dJ0_isLatin1_aae02_3 (by decide) (fun c_ => absurd c_ (by decide)) (fun _ => ?_)
  refine lv_aload_n hx hb dJ0_isLatin1_aae02_6 rfl (lv_at hl 0 rfl) ?_
  refine vk_getf hx hb hF.2.1 hS hown (hts (Cond.fieldLink RJ0 15 "java/lang/String" "coder" "B") (List.mem_of_getElem? (i := 2) rfl)) (fun _ h9 => h9) dJ0_isLatin1_aae02_7 ?_
  refine lv_if_ne (tgt := 17) hx hb dJ0_isLatin1_aae02_10 (by decide) (fun c_ => absurd (by decide) c_) (fun _ => ?_)
  refine lv_iconst (v := 1) hx hb dJ0_isLatin1_aae02_13 (by decide) ?_
  refine lv_goto (tgt := 18) hx hb dJ0_isLatin1_aae02_14 (by decide) ?_
  refine W.widen (k := 0) (n := 0) (by decide +kernel) (by decide +kernel) ?_
  exact W.zret (v := 1) hx hb hr rfl (fun t ht hW => ⟨⟨1, sq_u [] [], rfl, rfl, pq_B.of ht pq_P0 pq_D0⟩, hS.F ht⟩) hS.2.2 dJ0_isLatin1_aae02_18
def wq_J0_length_8abf5_r1 : List Cond := [Cond.fieldLink RJ0 9 "java/lang/String" "value" "[B", Cond.code yJ0_coder_7d493 cJ0_coder_7d493 1 (some .byte), Cond.fieldLink RJ0 38 "java/lang/String" "COMPACT_STRINGS" "Z", Cond.fieldLink RJ0 15 "java/lang/String" "coder" "B", Cond.methodLink RJ0 335 yJ0_coder_7d493, Cond.instanceMethod yJ0_coder_7d493, Cond.selects RJ0 yJ0_coder_7d493 yJ0_coder_7d493, Cond.initialized RJ0]
def wq_J0_length_8abf5 : List Cond := Cond.code yJ0_length_8abf5 cJ0_length_8abf5 1 (some .int) :: (wq_J0_length_8abf5_r1)
set_option maxRecDepth 20000 in
theorem gq_J0_length_8abf5_J0_coder_7d493_335 : GoodIn wq_J0_length_8abf5 (wsV RJ0 335 RJ0 yJ0_coder_7d493 wq_J0_coder_7d493) := goodIn_r _ [5, 6, 7, 8, 2, 3, 4] (by decide +kernel) (by decide +kernel)
set_option maxHeartbeats 4000000 in
set_option maxRecDepth 100000 in
theorem cs_J0_length_8abf5 (l : Launch) (D : va_G) (cl : List vw_C) (aK aV : Nat) (f : Nat → Int32) (sv : Value) (sz : Nat) : Met l yJ0_length_8abf5 wq_J0_length_8abf5 ({ frames := 1, cells := 0, slots := 0, locals := 20 }) (va_Pc [.ref aK] (sq_W aK aV f sv sz)) (va_Qi (fun (r : Int32) (_ : SQ) => r = 83) (fun _ => pq_B D cl [] (va_A [] sz)) (va_A [] sz)) 0 0 (va_A [] sz) := by
  refine Met.ofW (cc := cJ0_length_8abf5) (maxL := 1) (ret := (some .int)) (by decide) rfl ?_
  intro p e s m args below meth c s₁ B hml hv
  obtain ⟨rfl, hsz, hF⟩ := hv
  have hx := B.exec
  have hb := B.bytes
  have hr := B.returns
  have hts := atoms_spec (ws := wq_J0_length_8abf5) B.pre
  have hown : s.vm.findClass RJ0 = some m.cls := findClass_of_methodNamed B.named
  have hlocks := B.notSynchronized
  subst hsz
  generalize hAe : va_A [] s.heap.size = A at hF ⊢
  have hA : ∀ q : Nat, s.heap.size ≤ q → A q := fun q h => by rw [← hAe]; exact Or.inr h
  have hS : va_S A s.heap s.heap [] := va_S.rf
  obtain ⟨H, hH⟩ : ∃ H, H = s.heap := ⟨_, rfl⟩
  have hS : va_S A s.heap H [] := by rw [hH]; exact hS
  have hl := lv_entry ([.ref aK]) (n := 1) (Nat.le_of_ble_eq_true rfl)
  rw [lg_entry_eq]
  generalize (lg_sl ([.ref aK]) ++ List.replicate (1 - (lg_sl ([.ref aK])).length) Slot.unset).toArray = ls at hl ⊢
  have hl : lv_has ls 1 [(0, .ref aK)] := hl
  refine pq_heap hH ?_
  refine lv_aload_n hx hb dJ0_length_8abf5_0 rfl (lv_at hl 0 rfl) ?_
  refine vk_getf hx hb hF.2.2.1 hS hown (hts (Cond.fieldLink RJ0 9 "java/lang/String" "value" "[B") (List.mem_of_getElem? (i := 1) rfl)) (fun _ h9 => h9) dJ0_length_8abf5_1 ?_
  refine va_tlen (v := 83) hx hb hF.2.2.2.1 hS (by decide) dJ0_length_8abf5_4 ?_
  refine lv_aload_n hx hb dJ0_length_8abf5_5 rfl (lv_at hl 0 rfl) ?_
  refine pq_ci (D := D) (cl := cl) (ws := []) (wc := []) (wr := []) (W1 := fun _ => []) (va_runV (As := []) (rest := [.int 83]) ⟨hx, hb, hml, hown, hts⟩ (cs_J0_coder_7d493 l D cl aK aV f sv H.size) (cwV 0 hts gq_J0_length_8abf5_J0_coder_7d493_335 rfl rfl rfl (by decide +kernel) ⟨(by decide +kernel), (by decide +kernel)⟩) ⟨sq_blind, sq_recv hF hS, sq_pre hF hS hA⟩ rfl rfl hl.1 rfl (lv_room (Nat.le_of_ble_eq_true rfl)) dJ0_length_8abf5_6 ⟨(by decide +kernel), (by decide +kernel)⟩) pq_P0 pq_D0 hS hA [] [] rfl rfl rfl (by decide) (fun r2 u1 H locs hw hP hD hS => ?_)
  subst hw
  refine lv_ishr hx hb dJ0_length_8abf5_9 ?_
  refine lv_topi (fun x3 ex3 => ?_)
  obtain rfl : x3 = 83 := ex3.trans (by decide)
  refine W.widen (k := 0) (n := 0) (by decide +kernel) (by decide +kernel) ?_
  exact W.iret (v := 83) hx hb hr (fun t ht hW => ⟨⟨83, sq_u [] [], rfl, rfl, pq_B.of ht pq_P0 pq_D0⟩, hS.F ht⟩) hS.2.2 dJ0_length_8abf5_10
def wq_J3_checkIndex_8e157 : List Cond := Cond.code yJ3_checkIndex_8e157 cJ3_checkIndex_8e157 3 (some .int) :: (([] : List Cond))
set_option maxHeartbeats 4000000 in
set_option maxRecDepth 100000 in
theorem cs_J3_checkIndex_8e157_n (l : Launch) (D : va_G) (cl : List vw_C) (aK aV : Nat) (f : Nat → Int32)  (sz : Nat) (k : Nat) (hk : k < 83) : Met l yJ3_checkIndex_8e157 wq_J3_checkIndex_8e157 ({ frames := 0, cells := 0, slots := 0, locals := 0 }) (va_Pc [.int (nI k), .int 83, .null] (sq_W aK aV f .null sz)) (va_Qi (fun (r : Int32) (_ : SQ) => r = nI k) (fun _ => pq_B D cl [] (va_A [] sz)) (va_A [] sz)) 0 0 (va_A [] sz) := by
  refine Met.ofW (cc := cJ3_checkIndex_8e157) (maxL := 3) (ret := (some .int)) (by decide) rfl ?_
  intro p e s m args below meth c s₁ B hml hv
  obtain ⟨rfl, hsz, hF⟩ := hv
  have hx := B.exec
  have hb := B.bytes
  have hr := B.returns
  have hts := atoms_spec (ws := wq_J3_checkIndex_8e157) B.pre
  have hown : s.vm.findClass RJ3 = some m.cls := findClass_of_methodNamed B.named
  have hlocks := B.notSynchronized
  subst hsz
  generalize hAe : va_A [] s.heap.size = A at hF ⊢
  have hA : ∀ q : Nat, s.heap.size ≤ q → A q := fun q h => by rw [← hAe]; exact Or.inr h
  have hS : va_S A s.heap s.heap [] := va_S.rf
  obtain ⟨H, hH⟩ : ∃ H, H = s.heap := ⟨_, rfl⟩
  have hS : va_S A s.heap H [] := by rw [hH]; exact hS
  have hl := lv_entry ([.int (nI k), .int 83, .null]) (n := 3) (Nat.le_of_ble_eq_true rfl)
  rw [lg_entry_eq]
  generalize (lg_sl ([.int (nI k), .int 83, .null]) ++ List.replicate (3 - (lg_sl ([.int (nI k), .int 83, .null])).length) Slot.unset).toArray = ls at hl ⊢
  have hl : lv_has ls 3 [(0, .int (nI k)), (1, .int 83), (2, .null)] := hl
  refine pq_heap hH ?_
  refine lv_iload_n hx hb dJ3_checkIndex_8e157_0 rfl (lv_at hl 0 rfl) ?_
  refine lv_if_lt (tgt := 9) hx hb dJ3_checkIndex_8e157_1 (by decide) (fun c_ => absurd c_ (nI_pos (by omega))) (fun _ => ?_)
  refine lv_iload_n hx hb dJ3_checkIndex_8e157_4 rfl (lv_at hl 0 rfl) ?_
  refine lv_iload_n hx hb dJ3_checkIndex_8e157_5 rfl (lv_at hl 1 rfl) ?_
  refine lv_icmp_lt (tgt := 16) hx hb dJ3_checkIndex_8e157_6 (by decide) (fun _ => ?_) (fun c_ => absurd (show nI k < nI 83 from nI_lt hk (by decide)) c_)
  refine lv_iload_n hx hb dJ3_checkIndex_8e157_16 rfl (lv_at hl 0 rfl) ?_
  refine W.widen (k := 0) (n := 0) (by decide +kernel) (by decide +kernel) ?_
  exact W.iret (v := nI k) hx hb hr (fun t ht hW => ⟨⟨nI k, sq_u [] [], rfl, rfl, pq_B.of ht pq_P0 pq_D0⟩, hS.F ht⟩) hS.2.2 dJ3_checkIndex_8e157_17
set_option maxHeartbeats 4000000 in
set_option maxRecDepth 100000 in
theorem cs_J3_checkIndex_8e157_r (l : Launch) (D : va_G) (cl : List vw_C) (aK aV : Nat) (f : Nat → Int32) (sa : Nat) (sz : Nat) (k : Nat) (hk : k < 83) : Met l yJ3_checkIndex_8e157 wq_J3_checkIndex_8e157 ({ frames := 0, cells := 0, slots := 0, locals := 0 }) (va_Pc [.int (nI k), .int 83, (.ref sa)] (sq_W aK aV f (.ref sa) sz)) (va_Qi (fun (r : Int32) (_ : SQ) => r = nI k) (fun _ => pq_B D cl [] (va_A [] sz)) (va_A [] sz)) 0 0 (va_A [] sz) := by
  refine Met.ofW (cc := cJ3_checkIndex_8e157) (maxL := 3) (ret := (some .int)) (by decide) rfl ?_
  intro p e s m args below meth c s₁ B hml hv
  obtain ⟨rfl, hsz, hF⟩ := hv
  have hx := B.exec
  have hb := B.bytes
  have hr := B.returns
  have hts := atoms_spec (ws := wq_J3_checkIndex_8e157) B.pre
  have hown : s.vm.findClass RJ3 = some m.cls := findClass_of_methodNamed B.named
  have hlocks := B.notSynchronized
  subst hsz
  generalize hAe : va_A [] s.heap.size = A at hF ⊢
  have hA : ∀ q : Nat, s.heap.size ≤ q → A q := fun q h => by rw [← hAe]; exact Or.inr h
  have hS : va_S A s.heap s.heap [] := va_S.rf
  obtain ⟨H, hH⟩ : ∃ H, H = s.heap := ⟨_, rfl⟩
  have hS : va_S A s.heap H [] := by rw [hH]; exact hS
  have hl := lv_entry ([.int (nI k), .int 83, (.ref sa)]) (n := 3) (Nat.le_of_ble_eq_true rfl)
  rw [lg_entry_eq]
  generalize (lg_sl ([.int (nI k), .int 83, (.ref sa)]) ++ List.replicate (3 - (lg_sl ([.int (nI k), .int 83, (.ref sa)])).length) Slot.unset).toArray = ls at hl ⊢
  have hl : lv_has ls 3 [(0, .int (nI k)), (1, .int 83), (2, (.ref sa))] := hl
  refine pq_heap hH ?_
  refine lv_iload_n hx hb dJ3_checkIndex_8e157_0 rfl (lv_at hl 0 rfl) ?_
  refine lv_if_lt (tgt := 9) hx hb dJ3_checkIndex_8e157_1 (by decide) (fun c_ => absurd c_ (nI_pos (by omega))) (fun _ => ?_)
  refine lv_iload_n hx hb dJ3_checkIndex_8e157_4 rfl (lv_at hl 0 rfl) ?_
  refine lv_iload_n hx hb dJ3_checkIndex_8e157_5 rfl (lv_at hl 1 rfl) ?_
  refine lv_icmp_lt (tgt := 16) hx hb dJ3_checkIndex_8e157_6 (by decide) (fun _ => ?_) (fun c_ => absurd (show nI k < nI 83 from nI_lt hk (by decide)) c_)
  refine lv_iload_n hx hb dJ3_checkIndex_8e157_16 rfl (lv_at hl 0 rfl) ?_
  refine W.widen (k := 0) (n := 0) (by decide +kernel) (by decide +kernel) ?_
  exact W.iret (v := nI k) hx hb hr (fun t ht hW => ⟨⟨nI k, sq_u [] [], rfl, rfl, pq_B.of ht pq_P0 pq_D0⟩, hS.F ht⟩) hS.2.2 dJ3_checkIndex_8e157_17
theorem cs_J3_checkIndex_8e157 (l : Launch) (D : va_G) (cl : List vw_C) (aK aV : Nat) (f : Nat → Int32) (sv : Value) (sz : Nat) (k : Nat) (hk : k < 83) (hsv : sv = .null ∨ ∃ a, sv = .ref a) : Met l yJ3_checkIndex_8e157 wq_J3_checkIndex_8e157 ({ frames := 0, cells := 0, slots := 0, locals := 0 }) (va_Pc [.int (nI k), .int 83, sv] (sq_W aK aV f sv sz)) (va_Qi (fun (r : Int32) (_ : SQ) => r = nI k) (fun _ => pq_B D cl [] (va_A [] sz)) (va_A [] sz)) 0 0 (va_A [] sz) := by
  rcases hsv with rfl | ⟨sa, rfl⟩
  · exact cs_J3_checkIndex_8e157_n l D cl aK aV f sz k hk
  · exact cs_J3_checkIndex_8e157_r l D cl aK aV f sa sz k hk
def wq_J0_checkIndex_df160_r1 : List Cond := [Cond.fieldLink RJ0 1053 "jdk/internal/util/Preconditions" "SIOOBE_FORMATTER" "Ljava/util/function/BiFunction;", Cond.code yJ3_checkIndex_8e157 cJ3_checkIndex_8e157 3 (some .int), Cond.methodLink RJ0 1059 yJ3_checkIndex_8e157, Cond.static yJ3_checkIndex_8e157, Cond.initialized RJ3]
def wq_J0_checkIndex_df160 : List Cond := Cond.code yJ0_checkIndex_df160 cJ0_checkIndex_df160 2 none :: (wq_J0_checkIndex_df160_r1)
set_option maxRecDepth 20000 in
theorem gq_J0_checkIndex_df160_J3_checkIndex_8e157_1059 : GoodIn wq_J0_checkIndex_df160 ([Cond.methodLink RJ0 1059 yJ3_checkIndex_8e157] ++ wq_J3_checkIndex_8e157) := goodIn_r _ [3, 2] (by decide +kernel) (by decide +kernel)
set_option maxHeartbeats 4000000 in
set_option maxRecDepth 100000 in
theorem cs_J0_checkIndex_df160 (l : Launch) (D : va_G) (cl : List vw_C) (aK aV : Nat) (f : Nat → Int32) (sv : Value) (sz : Nat) (k : Nat) (hk : k < 83) (hsv : sv = .null ∨ ∃ a, sv = .ref a) : Met l yJ0_checkIndex_df160 wq_J0_checkIndex_df160 ({ frames := 1, cells := 0, slots := 0, locals := 22 }) (va_Pc [.int (nI k), .int 83] (sq_W aK aV f sv sz)) (va_Qv (fun (_ : SQ) => True) (fun _ => pq_B D cl [] (va_A [] sz)) (va_A [] sz)) 0 0 (va_A [] sz) := by
  refine Met.ofW (cc := cJ0_checkIndex_df160) (maxL := 2) (ret := none) (by decide) rfl ?_
  intro p e s m args below meth c s₁ B hml hv
  obtain ⟨rfl, hsz, hF⟩ := hv
  have hx := B.exec
  have hb := B.bytes
  have hr := B.returns
  have hts := atoms_spec (ws := wq_J0_checkIndex_df160) B.pre
  have hown : s.vm.findClass RJ0 = some m.cls := findClass_of_methodNamed B.named
  have hlocks := B.notSynchronized
  subst hsz
  generalize hAe : va_A [] s.heap.size = A at hF ⊢
  have hA : ∀ q : Nat, s.heap.size ≤ q → A q := fun q h => by rw [← hAe]; exact Or.inr h
  have hS : va_S A s.heap s.heap [] := va_S.rf
  obtain ⟨H, hH⟩ : ∃ H, H = s.heap := ⟨_, rfl⟩
  have hS : va_S A s.heap H [] := by rw [hH]; exact hS
  have hl := lv_entry ([.int (nI k), .int 83]) (n := 2) (Nat.le_of_ble_eq_true rfl)
  rw [lg_entry_eq]
  generalize (lg_sl ([.int (nI k), .int 83]) ++ List.replicate (2 - (lg_sl ([.int (nI k), .int 83])).length) Slot.unset).toArray = ls at hl ⊢
  have hl : lv_has ls 2 [(0, .int (nI k)), (1, .int 83)] := hl
  refine pq_heap hH ?_
  refine lv_iload_n hx hb dJ0_checkIndex_df160_0 rfl (lv_at hl 0 rfl) ?_
  refine lv_iload_n hx hb dJ0_checkIndex_df160_1 rfl (lv_at hl 1 rfl) ?_
  refine va_gets hx hb hF.2.2.2.2.2 hS hown (hts (Cond.fieldLink RJ0 1053 "jdk/internal/util/Preconditions" "SIOOBE_FORMATTER" "Ljava/util/function/BiFunction;") (List.mem_of_getElem? (i := 1) rfl)) (fun _ h9 => h9) dJ0_checkIndex_df160_2 ?_
  refine pq_ci (D := D) (cl := cl) (ws := []) (wc := []) (wr := []) (W1 := fun _ => []) (va_runS (As := [.int (nI k), .int 83, sv]) (rest := []) ⟨hx, hb, hml, hown, hts⟩ (cs_J3_checkIndex_8e157 l D cl aK aV f sv H.size k hk hsv) ⟨callB_of 3 hts (fun w h => gq_J0_checkIndex_df160_J3_checkIndex_8e157_1059 w (List.mem_append_right _ h)) rfl rfl rfl (hts (Cond.initialized RJ3) (List.mem_of_getElem? (i := 5) rfl)) (hts (Cond.methodLink RJ0 1059 yJ3_checkIndex_8e157) (List.mem_of_getElem? (i := 3) rfl)) (by decide +kernel) ⟨(by decide +kernel), (by decide +kernel)⟩, (hts (Cond.static yJ3_checkIndex_8e157) (List.mem_of_getElem? (i := 4) rfl))⟩ ⟨sq_blind, sq_pre hF hS hA⟩ rfl rfl hl.1 rfl (lv_room (Nat.le_of_ble_eq_true rfl)) dJ0_checkIndex_df160_5 ⟨(by decide +kernel), (by decide +kernel)⟩) pq_P0 pq_D0 hS hA [] [] rfl rfl rfl (by decide) (fun r2 u1 H locs hw hP hD hS => ?_)
  subst hw
  refine lv_pop hx hb dJ0_checkIndex_df160_8 rfl ?_
  refine W.widen (k := 0) (n := 0) (by decide +kernel) (by decide +kernel) ?_
  exact W.vret hx hb hr (fun t ht hW => ⟨⟨sq_u [] [], rfl, trivial, pq_B.of ht pq_P0 pq_D0⟩, hS.F ht⟩) hS.2.2 dJ0_checkIndex_df160_9
def wq_J1_charAt_3b067_r1 : List Cond := [Cond.code yJ0_checkIndex_df160 cJ0_checkIndex_df160 2 none, Cond.fieldLink RJ0 1053 "jdk/internal/util/Preconditions" "SIOOBE_FORMATTER" "Ljava/util/function/BiFunction;", Cond.code yJ3_checkIndex_8e157 cJ3_checkIndex_8e157 3 (some .int), Cond.methodLink RJ0 1059 yJ3_checkIndex_8e157, Cond.static yJ3_checkIndex_8e157, Cond.initialized RJ3, Cond.methodLink RJ1 9 yJ0_checkIndex_df160, Cond.static yJ0_checkIndex_df160, Cond.initialized RJ0]
def wq_J1_charAt_3b067 : List Cond := Cond.code yJ1_charAt_3b067 cJ1_charAt_3b067 2 (some .char) :: (wq_J1_charAt_3b067_r1)
set_option maxRecDepth 20000 in
theorem gq_J1_charAt_3b067_J0_checkIndex_df160_9 : GoodIn wq_J1_charAt_3b067 ([Cond.methodLink RJ1 9 yJ0_checkIndex_df160] ++ wq_J0_checkIndex_df160) := goodIn_r _ [7, 1, 2, 3, 4, 5, 6] (by decide +kernel) (by decide +kernel)
set_option maxHeartbeats 4000000 in
set_option maxRecDepth 100000 in
theorem cs_J1_charAt_3b067 (l : Launch) (D : va_G) (cl : List vw_C) (aK aV : Nat) (f : Nat → Int32) (sv : Value) (sz : Nat) (k : Nat) (hk : k < 83) (hsv : sv = .null ∨ ∃ a, sv = .ref a) : Met l yJ1_charAt_3b067 wq_J1_charAt_3b067 ({ frames := 2, cells := 0, slots := 0, locals := 43 }) (va_Pc [.ref aV, .int (nI k)] (sq_W aK aV f sv sz)) (va_Qi (fun (r : Int32) (_ : SQ) => r = (((f k) &&& 255).toUInt32 % 65536).toInt32) (fun _ => pq_B D cl [] (va_A [] sz)) (va_A [] sz)) 0 0 (va_A [] sz) := by
  refine Met.ofW (cc := cJ1_charAt_3b067) (maxL := 2) (ret := (some .char)) (by decide) rfl ?_
  intro p e s m args below meth c s₁ B hml hv
  obtain ⟨rfl, hsz, hF⟩ := hv
  have hx := B.exec
  have hb := B.bytes
  have hr := B.returns
  have hts := atoms_spec (ws := wq_J1_charAt_3b067) B.pre
  have hown : s.vm.findClass RJ1 = some m.cls := findClass_of_methodNamed B.named
  have hlocks := B.notSynchronized
  subst hsz
  generalize hAe : va_A [] s.heap.size = A at hF ⊢
  have hA : ∀ q : Nat, s.heap.size ≤ q → A q := fun q h => by rw [← hAe]; exact Or.inr h
  have hS : va_S A s.heap s.heap [] := va_S.rf
  obtain ⟨H, hH⟩ : ∃ H, H = s.heap := ⟨_, rfl⟩
  have hS : va_S A s.heap H [] := by rw [hH]; exact hS
  have hl := lv_entry ([.ref aV, .int (nI k)]) (n := 2) (Nat.le_of_ble_eq_true rfl)
  rw [lg_entry_eq]
  generalize (lg_sl ([.ref aV, .int (nI k)]) ++ List.replicate (2 - (lg_sl ([.ref aV, .int (nI k)])).length) Slot.unset).toArray = ls at hl ⊢
  have hl : lv_has ls 2 [(0, .ref aV), (1, .int (nI k))] := hl
  refine pq_heap hH ?_
  refine lv_iload_n hx hb dJ1_charAt_3b067_0 rfl (lv_at hl 1 rfl) ?_
  refine lv_aload_n hx hb dJ1_charAt_3b067_1 rfl (lv_at hl 0 rfl) ?_
  refine va_tlen (v := 83) hx hb hF.2.2.2.1 hS (by decide) dJ1_charAt_3b067_2 ?_
  refine pq_cv (D := D) (cl := cl) (ws := []) (wc := []) (wr := []) (W1 := fun _ => []) (va_runS (As := [.int (nI k), .int 83]) (rest := []) ⟨hx, hb, hml, hown, hts⟩ (cs_J0_checkIndex_df160 l D cl aK aV f sv H.size k hk hsv) ⟨callB_of 2 hts (fun w h => gq_J1_charAt_3b067_J0_checkIndex_df160_9 w (List.mem_append_right _ h)) rfl rfl rfl (hts (Cond.initialized RJ0) (List.mem_of_getElem? (i := 9) rfl)) (hts (Cond.methodLink RJ1 9 yJ0_checkIndex_df160) (List.mem_of_getElem? (i := 7) rfl)) (by decide +kernel) ⟨(by decide +kernel), (by decide +kernel)⟩, (hts (Cond.static yJ0_checkIndex_df160) (List.mem_of_getElem? (i := 8) rfl))⟩ ⟨sq_blind, sq_pre hF hS hA⟩ rfl rfl hl.1 rfl (lv_room (Nat.le_of_ble_eq_true rfl)) dJ1_charAt_3b067_3 ⟨(by decide +kernel), (by decide +kernel)⟩) pq_P0 pq_D0 hS hA [] [] rfl rfl rfl (by decide) (fun u1 H locs hw hP hD hS => ?_)
  refine lv_aload_n hx hb dJ1_charAt_3b067_6 rfl (lv_at hl 0 rfl) ?_
  refine lv_iload_n hx hb dJ1_charAt_3b067_7 rfl (lv_at hl 1 rfl) ?_
  refine va_tb (v := .int (f k)) hx hb hF.2.2.2.1 hS (vp_in_nI hk (by decide)) (by rw [nI_clamp (by omega)]) dJ1_charAt_3b067_8 ?_
  refine lv_sipush (v := 255) hx hb dJ1_charAt_3b067_9 (by decide) ?_
  refine lv_iand hx hb dJ1_charAt_3b067_12 ?_
  refine lv_i2c (v := (((f k) &&& 255).toUInt32 % 65536).toInt32) hx hb dJ1_charAt_3b067_13 rfl ?_
  refine W.widen (k := 0) (n := 0) (by decide +kernel) (by decide +kernel) ?_
  exact W.zret (v := (((f k) &&& 255).toUInt32 % 65536).toInt32) hx hb hr (pk_nc _) (fun t ht hW => ⟨⟨(((f k) &&& 255).toUInt32 % 65536).toInt32, sq_u [] [], rfl, rfl, pq_B.of ht pq_P0 pq_D0⟩, hS.F ht⟩) hS.2.2 dJ1_charAt_3b067_14
def wq_J0_charAt_5068e_r1 : List Cond := [Cond.code yJ0_isLatin1_aae02 cJ0_isLatin1_aae02 1 (some .boolean), Cond.fieldLink RJ0 38 "java/lang/String" "COMPACT_STRINGS" "Z", Cond.fieldLink RJ0 15 "java/lang/String" "coder" "B", Cond.methodLink RJ0 492 yJ0_isLatin1_aae02, Cond.instanceMethod yJ0_isLatin1_aae02, Cond.selects RJ0 yJ0_isLatin1_aae02 yJ0_isLatin1_aae02, Cond.initialized RJ0, Cond.fieldLink RJ0 9 "java/lang/String" "value" "[B", Cond.code yJ1_charAt_3b067 cJ1_charAt_3b067 2 (some .char), Cond.code yJ0_checkIndex_df160 cJ0_checkIndex_df160 2 none, Cond.fieldLink RJ0 1053 "jdk/internal/util/Preconditions" "SIOOBE_FORMATTER" "Ljava/util/function/BiFunction;", Cond.code yJ3_checkIndex_8e157 cJ3_checkIndex_8e157 3 (some .int), Cond.methodLink RJ0 1059 yJ3_checkIndex_8e157, Cond.static yJ3_checkIndex_8e157, Cond.initialized RJ3, Cond.methodLink RJ1 9 yJ0_checkIndex_df160, Cond.static yJ0_checkIndex_df160, Cond.methodLink RJ0 495 yJ1_charAt_3b067, Cond.static yJ1_charAt_3b067, Cond.initialized RJ1]
def wq_J0_charAt_5068e : List Cond := Cond.code yJ0_charAt_5068e cJ0_charAt_5068e 2 (some .char) :: (wq_J0_charAt_5068e_r1)
set_option maxRecDepth 20000 in
theorem gq_J0_charAt_5068e_J0_isLatin1_aae02_492 : GoodIn wq_J0_charAt_5068e (wsV RJ0 492 RJ0 yJ0_isLatin1_aae02 wq_J0_isLatin1_aae02) := goodIn_r _ [4, 5, 6, 7, 1, 2, 3] (by decide +kernel) (by decide +kernel)
set_option maxRecDepth 20000 in
theorem gq_J0_charAt_5068e_J1_charAt_3b067_495 : GoodIn wq_J0_charAt_5068e ([Cond.methodLink RJ0 495 yJ1_charAt_3b067] ++ wq_J1_charAt_3b067) := goodIn_r _ [18, 9, 10, 11, 12, 13, 14, 15, 16, 17, 7] (by decide +kernel) (by decide +kernel)
set_option maxHeartbeats 4000000 in
set_option maxRecDepth 100000 in
theorem cs_J0_charAt_5068e (l : Launch) (D : va_G) (cl : List vw_C) (aK aV : Nat) (f : Nat → Int32) (sv : Value) (sz : Nat) (k : Nat) (hk : k < 83) (hsv : sv = .null ∨ ∃ a, sv = .ref a) : Met l yJ0_charAt_5068e wq_J0_charAt_5068e ({ frames := 3, cells := 0, slots := 0, locals := 64 }) (va_Pc [.ref aK, .int (nI k)] (sq_W aK aV f sv sz)) (va_Qi (fun (r : Int32) (_ : SQ) => r = (((f k) &&& 255).toUInt32 % 65536).toInt32) (fun _ => pq_B D cl [] (va_A [] sz)) (va_A [] sz)) 0 0 (va_A [] sz) := by
  refine Met.ofW (cc := cJ0_charAt_5068e) (maxL := 2) (ret := (some .char)) (by decide) rfl ?_
  intro p e s m args below meth c s₁ B hml hv
  obtain ⟨rfl, hsz, hF⟩ := hv
  have hx := B.exec
  have hb := B.bytes
  have hr := B.returns
  have hts := atoms_spec (ws := wq_J0_charAt_5068e) B.pre
  have hown : s.vm.findClass RJ0 = some m.cls := findClass_of_methodNamed B.named
  have hlocks := B.notSynchronized
  subst hsz
  generalize hAe : va_A [] s.heap.size = A at hF ⊢
  have hA : ∀ q : Nat, s.heap.size ≤ q → A q := fun q h => by rw [← hAe]; exact Or.inr h
  have hS : va_S A s.heap s.heap [] := va_S.rf
  obtain ⟨H, hH⟩ : ∃ H, H = s.heap := ⟨_, rfl⟩
  have hS : va_S A s.heap H [] := by rw [hH]; exact hS
  have hl := lv_entry ([.ref aK, .int (nI k)]) (n := 2) (Nat.le_of_ble_eq_true rfl)
  rw [lg_entry_eq]
  generalize (lg_sl ([.ref aK, .int (nI k)]) ++ List.replicate (2 - (lg_sl ([.ref aK, .int (nI k)])).length) Slot.unset).toArray = ls at hl ⊢
  have hl : lv_has ls 2 [(0, .ref aK), (1, .int (nI k))] := hl
  refine pq_heap hH ?_
  refine lv_aload_n hx hb dJ0_charAt_5068e_0 rfl (lv_at hl 0 rfl) ?_
  refine pq_ci (D := D) (cl := cl) (ws := []) (wc := []) (wr := []) (W1 := fun _ => []) (va_runV (As := []) (rest := []) ⟨hx, hb, hml, hown, hts⟩ (cs_J0_isLatin1_aae02 l D cl aK aV f sv H.size) (cwV 0 hts gq_J0_charAt_5068e_J0_isLatin1_aae02_492 rfl rfl rfl (by decide +kernel) ⟨(by decide +kernel), (by decide +kernel)⟩) ⟨sq_blind, sq_recv hF hS, sq_pre hF hS hA⟩ rfl rfl hl.1 rfl (lv_room (Nat.le_of_ble_eq_true rfl)) dJ0_charAt_5068e_1 ⟨(by decide +kernel), (by decide +kernel)⟩) pq_P0 pq_D0 hS hA [] [] rfl rfl rfl (by decide) (fun r2 u1 H locs hw hP hD hS => ?_)
  subst hw
  refine lv_if_eq (tgt := 16) hx hb dJ0_charAt_5068e_4 (by decide) (fun c_ => absurd c_ (by decide)) (fun _ => ?_)
  refine lv_aload_n hx hb dJ0_charAt_5068e_7 rfl (lv_at hl 0 rfl) ?_
  refine vk_getf hx hb hF.2.2.1 hS hown (hts (Cond.fieldLink RJ0 9 "java/lang/String" "value" "[B") (List.mem_of_getElem? (i := 8) rfl)) (fun _ h9 => h9) dJ0_charAt_5068e_8 ?_
  refine lv_iload_n hx hb dJ0_charAt_5068e_11 rfl (lv_at hl 1 rfl) ?_
  refine pq_ci (D := D) (cl := cl) (ws := []) (wc := []) (wr := []) (W1 := fun _ => []) (va_runS (As := [.ref aV, .int (nI k)]) (rest := []) ⟨hx, hb, hml, hown, hts⟩ (cs_J1_charAt_3b067 l D cl aK aV f sv H.size k hk hsv) ⟨callB_of 2 hts (fun w h => gq_J0_charAt_5068e_J1_charAt_3b067_495 w (List.mem_append_right _ h)) rfl rfl rfl (hts (Cond.initialized RJ1) (List.mem_of_getElem? (i := 20) rfl)) (hts (Cond.methodLink RJ0 495 yJ1_charAt_3b067) (List.mem_of_getElem? (i := 18) rfl)) (by decide +kernel) ⟨(by decide +kernel), (by decide +kernel)⟩, (hts (Cond.static yJ1_charAt_3b067) (List.mem_of_getElem? (i := 19) rfl))⟩ ⟨sq_blind, sq_pre hF hS hA⟩ rfl rfl hl.1 rfl (lv_room (Nat.le_of_ble_eq_true rfl)) dJ0_charAt_5068e_12 ⟨(by decide +kernel), (by decide +kernel)⟩) pq_P0 pq_D0 hS hA [] [] rfl rfl rfl (by decide) (fun r4 u3 H locs hw hP hD hS => ?_)
  subst hw
  refine W.widen (k := 0) (n := 0) (by decide +kernel) (by decide +kernel) ?_
  exact W.zret (v := (((f k) &&& 255).toUInt32 % 65536).toInt32) hx hb hr (pk_nc _) (fun t ht hW => ⟨⟨(((f k) &&& 255).toUInt32 % 65536).toInt32, sq_u [] [], rfl, rfl, pq_B.of ht pq_P0 pq_D0⟩, hS.F ht⟩) hS.2.2 dJ0_charAt_5068e_15
