def wq_J0_coder_7d493_r1 : List Cond := [Cond.fieldLink RJ0 38 "java/lang/String" "COMPACT_STRINGS" "Z", Cond.fieldLink RJ0 15 "java/lang/String" "coder" "B"]
def wq_J0_coder_7d493 : List Cond := Cond.code yJ0_coder_7d493 cJ0_coder_7d493 1 (some .byte) :: (wq_J0_coder_7d493_r1)
set_option maxHeartbeats 4000000 in
set_option maxRecDepth 100000 in
theorem cs_J0_coder_7d493 (l : Launch) (D : va_G) (cl : List vw_C) (aK aV : Nat) (f : Nat → Int32) (sv : Value) (sz : Nat) : Met l yJ0_coder_7d493 wq_J0_coder_7d493 ({ frames := 0, cells := 0, slots := 0, locals := 0 }) (va_Pc [.ref aK] (sq_W aK aV f sv sz)) (va_Qi (fun (r : Int32) (_ : SQ) => r = 0) (fun _ => pq_B D cl [] (va_A [] sz)) (va_A [] sz)) 0 0 (va_A [] sz) := by
  refine Met.ofW (cc := cJ0_coder_7d493) (maxL := 1) (ret := (some .byte)) (by decide) rfl ?_
  intro p e s m args below meth c s₁ B hml hv
  obtain ⟨rfl, hsz, hF⟩ := hv
  have hx := B.exec
  have hb := B.bytes
  have hr := B.returns
  have hts := atoms_spec (ws := wq_J0_coder_7d493) B.pre
  have hown : s.vm.findClass RJ0 = some m.cls := findClass_of_methodNamed B.named
  have hlocks := B.notSynchronized
  subst hsz
  generalize hAe : va_A [] s.heap.size = A at hF ⊢
  have hA : ∀ q : Nat, s.heap.size ≤ q → A q := fun q h => by rw [← hAe]; exact Or.inr h
  have hS : va_S A s.heap s.heap [] := va_S.rf
  obtain ⟨H, hH⟩ : ∃ H, H = s.heap := ⟨_, rfl⟩
  have hS : va_S A s.heap H [] := by rw [hH]; exact hS
  have hl := lv_entry ([.ref aK]) (n := 1) (Nat.le_of_ble_eq_true rfl)
  rw [lg_entry_eq]
  generalize (lg_sl ([.ref aK]) ++ List.replicate (1 - (lg_sl ([.ref aK])).length) Slot.unset).toArray = ls at hl ⊢
  have hl : lv_has ls 1 [(0, .ref aK)] := hl
  refine pq_heap hH ?_
  refine va_gets hx hb hF.2.2.2.2.1 hS hown (hts (Cond.fieldLink RJ0 38 "java/lang/String" "COMPACT_STRINGS" "Z") (List.mem_of_getElem? (i := 1) rfl)) (fun _ h9 => h9) dJ0_coder_7d493_0 ?_
  refine lv_if_eq (tgt := 13) hx hb dJ0_coder_7d493_3 (by decide) (fun c_ => absurd c_ (by decide)) (fun _ => ?_)
  refine lv_aload_n hx hb dJ0_coder_7d493_6 rfl (lv_at hl 0 rfl) ?_
  refine vk_getf hx hb hF.2.1 hS hown (hts (Cond.fieldLink RJ0 15 "java/lang/String" "coder" "B") (List.mem_of_getElem? (i := 2) rfl)) (fun _ h9 => h9) dJ0_coder_7d493_7 ?_
  refine lv_goto (tgt := 14) hx hb dJ0_coder_7d493_10 (by decide) ?_
  refine W.widen (k := 0) (n := 0) (by decide +kernel) (by decide +kernel) ?_
  exact W.zret (v := 0) hx hb hr rfl (fun t ht hW => ⟨⟨0, sq_u [] [], rfl, rfl, pq_B.of ht pq_P0 pq_D0⟩, hS.F ht⟩) hS.2.2 dJ0_coder_7d493_14
def wq_J0_isLatin1_aae02_r1 : List Cond := [Cond.fieldLink RJ0 38 "java/lang/String" "COMPACT_STRINGS" "Z", Cond.fieldLink RJ0 15 "java/lang/String" "coder" "B"]
def wq_J0_isLatin1_aae02 : List Cond := Cond.code yJ0_isLatin1_aae02 cJ0_isLatin1_aae02 1 (some .boolean) :: (wq_J0_isLatin1_aae02_r1)
set_option maxHeartbeats 4000000 in
set_option maxRecDepth 100000 in
theorem cs_J0_isLatin1_aae02 (l : Launch) (D : va_G) (cl : List vw_C) (aK aV : Nat) (f : Nat → Int32) (sv : Value) (sz : Nat) : Met l yJ0_isLatin1_aae02 wq_J0_isLatin1_aae02 ({ frames := 0, cells := 0, slots := 0, locals := 0 }) (va_Pc [.ref aK] (sq_W aK aV f sv sz)) (va_Qi (fun (r : Int32) (_ : SQ) => r = 1) (fun _ => pq_B D cl [] (va_A [] sz)) (va_A [] sz)) 0 0 (va_A [] sz) := by
  refine Met.ofW (cc := cJ0_isLatin1_aae02) (maxL := 1) (ret := (some .boolean)) (by decide) rfl ?_
  intro p e s m args below meth c s₁ B hml hv
  obtain ⟨rfl, hsz, hF⟩ := hv
  have hx := B.exec
  have hb := B.bytes
  have hr := B.returns
  have hts := atoms_spec (ws := wq_J0_isLatin1_aae02) B.pre
  have hown : s.vm.findClass RJ0 = some m.cls := findClass_of_methodNamed B.named
  have hlocks := B.notSynchronized
  subst hsz
  generalize hAe : va_A [] s.heap.size = A at hF ⊢
  have hA : ∀ q : Nat, s.heap.size ≤ q → A q := fun q h => by rw [← hAe]; exact Or.inr h
  have hS : va_S A s.heap s.heap [] := va_S.rf
  obtain ⟨H, hH⟩ : ∃ H, H = s.heap := ⟨_, rfl⟩
  have hS : va_S A s.heap H [] := by rw [hH]; exact hS
  have hl := lv_entry ([.ref aK]) (n := 1) (Nat.le_of_ble_eq_true rfl)
  rw [lg_entry_eq]
  generalize (lg_sl ([.ref aK]) ++ List.replicate (1 - (lg_sl ([.ref aK])).length) Slot.unset).toArray = ls at hl ⊢
  have hl : lv_has ls 1 [(0, .ref aK)] := hl
  refine pq_heap hH ?_
  refine va_gets hx hb hF.2.2.2.2.1 hS hown (hts (Cond.fieldLink RJ0 38 "java/lang/String" "COMPACT_STRINGS" "Z") (List.mem_of_getElem? (i := 1) rfl)) (fun _ h9 => h9) dJ0_isLatin1_aae02_0 ?_
  refine lv_if_eq (tgt := 17) hx hb dJ0_isLatin1_aae02_3 (by decide) (fun c_ => absurd c_ (by decide)) (fun _ => ?_)
  refine lv_aload_n hx hb dJ0_isLatin1_aae02_6 rfl (lv_at hl 0 rfl) ?_
  refine vk_getf hx hb hF.2.1 hS hown (hts (Cond.fieldLink RJ0 15 "java/lang/String" "coder" "B") (List.mem_of_getElem? (i := 2) rfl)) (fun _ h9 => h9) dJ0_isLatin1_aae02_7 ?_
  refine lv_if_ne (tgt := 17) hx hb dJ0_isLatin1_aae02_10 (by decide) (fun c_ => absurd (by decide) c_) (fun _ => ?_)
  refine lv_iconst (v := 1) hx hb dJ0_isLatin1_aae02_13 (by decide) ?_
  refine lv_goto (tgt := 18) hx hb dJ0_isLatin1_aae02_14 (by decide) ?_
  refine W.widen (k := 0) (n := 0) (by decide +kernel) (by decide +kernel) ?_
  exact W.zret (v := 1) hx hb hr rfl (fun t ht hW => ⟨⟨1, sq_u [] [], rfl, rfl, pq_B.of ht pq_P0 pq_D0⟩, hS.F ht⟩) hS.2.2 dJ0_isLatin1_aae02_18
def wq_J0_length_8abf5_r1 : List Cond := [Cond.fieldLink RJ0 9 "java/lang/String" "value" "[B", Cond.code yJ0_coder_7d493 cJ0_coder_7d493 1 (some .byte), Cond.fieldLink RJ0 38 "java/lang/String" "COMPACT_STRINGS" "Z", Cond.fieldLink RJ0 15 "java/lang/String" "coder" "B", Cond.methodLink RJ0 335 yJ0_coder_7d493, Cond.instanceMethod yJ0_coder_7d493, Cond.selects RJ0 yJ0_coder_7d493 yJ0_coder_7d493, Cond.initialized RJ0]
def wq_J0_length_8abf5 : List Cond := Cond.code yJ0_length_8abf5 cJ0_length_8abf5 1 (some .int) :: (wq_J0_length_8abf5_r1)
set_option maxRecDepth 20000 in
theorem gq_J0_length_8abf5_J0_coder_7d493_335 : GoodIn wq_J0_length_8abf5 (wsV RJ0 335 RJ0 yJ0_coder_7d493 wq_J0_coder_7d493) := goodIn_r _ [5, 6, 7, 8, 2, 3, 4] (by decide +kernel) (by decide +kernel)
set_option maxHeartbeats 4000000 in
set_option maxRecDepth 100000 in
theorem cs_J0_length_8abf5 (l : Launch) (D : va_G) (cl : List vw_C) (aK aV : Nat) (f : Nat → Int32) (sv : Value) (sz : Nat) : Met l yJ0_length_8abf5 wq_J0_length_8abf5 ({ frames := 1, cells := 0, slots := 0, locals := 20 }) (va_Pc [.ref aK] (sq_W aK aV f sv sz)) (va_Qi (fun (r : Int32) (_ : SQ) => r = 83) (fun _ => pq_B D cl [] (va_A [] sz)) (va_A [] sz)) 0 0 (va_A [] sz) := by
  refine Met.ofW (cc := cJ0_length_8abf5) (maxL := 1) (ret := (some .int)) (by decide) rfl ?_
  intro p e s m args below meth c s₁ B hml hv
  obtain ⟨rfl, hsz, hF⟩ := hv
  have hx := B.exec
  have hb := B.bytes
  have hr := B.returns
  have hts := atoms_spec (ws := wq_J0_length_8abf5) B.pre
  have hown : s.vm.findClass RJ0 = some m.cls := findClass_of_methodNamed B.named
  have hlocks := B.notSynchronized
  subst hsz
  generalize hAe : va_A [] s.heap.size = A at hF ⊢
  have hA : ∀ q : Nat, s.heap.size ≤ q → A q := fun q h => by rw [← hAe]; exact Or.inr h
  have hS : va_S A s.heap s.heap [] := va_S.rf
  obtain ⟨H, hH⟩ : ∃ H, H = s.heap := ⟨_, rfl⟩
  have hS : va_S A s.heap H [] := by rw [hH]; exact hS
  have hl := lv_entry ([.ref aK]) (n := 1) (Nat.le_of_ble_eq_true rfl)
  rw [lg_entry_eq]
  generalize (lg_sl ([.ref aK]) ++ List.replicate (1 - (lg_sl ([.ref aK])).length) Slot.unset).toArray = ls at hl ⊢
  have hl : lv_has ls 1 [(0, .ref aK)] := hl
  refine pq_heap hH ?_
  refine lv_aload_n hx hb dJ0_length_8abf5_0 rfl (lv_at hl 0 rfl) ?_
  refine vk_getf hx hb hF.2.2.1 hS hown (hts (Cond.fieldLink RJ0 9 "java/lang/String" "value" "[B") (List.mem_of_getElem? (i := 1) rfl)) (fun _ h9 => h9) dJ0_length_8abf5_1 ?_
  refine va_tlen (v := 83) hx hb hF.2.2.2.1 hS (by decide) dJ0_length_8abf5_4 ?_
  refine lv_aload_n hx hb dJ0_length_8abf5_5 rfl (lv_at hl 0 rfl) ?_
  refine pq_ci (D := D) (cl := cl) (ws := []) (wc := []) (wr := []) (W1 := fun _ => []) (va_runV (As := []) (rest := [.int 83]) ⟨hx, hb, hml, hown, hts⟩ (cs_J0_coder_7d493 l D cl aK aV f sv H.size) (cwV 0 hts gq_J0_length_8abf5_J0_coder_7d493_335 rfl rfl rfl (by decide +kernel) ⟨(by decide +kernel), (by decide +kernel)⟩) ⟨sq_blind, sq_recv hF hS, sq_pre hF hS hA⟩ rfl rfl hl.1 rfl (lv_room (Nat.le_of_ble_eq_true rfl)) dJ0_length_8abf5_6 ⟨(by decide +kernel), (by decide +kernel)⟩) pq_P0 pq_D0 hS hA [] [] rfl rfl rfl (by decide) (fun r2 u1 H locs hw hP hD hS => ?_)
  subst hw
  refine lv_ishr hx hb dJ0_length_8abf5_9 ?_
  refine lv_topi (fun x3 ex3 => ?_)
  obtain rfl : x3 = 83 := ex3.trans (by decide)
  refine W.widen (k := 0) (n := 0) (by decide +kernel) (by decide +kernel) ?_
  exact W.iret (v := 83) hx hb hr (fun t ht hW => ⟨⟨83, sq_u [] [], rfl, rfl, pq_B.of ht pq_P0 pq_D0⟩, hS.F ht⟩) hS.2.2 dJ0_length_8abf5_10
def wq_J3_checkIndex_8e157 : List Cond := Cond.code yJ3_checkIndex_8e157 cJ3_checkIndex_8e157 3 (some .int) :: (([] : List Cond))
set_option maxHeartbeats 4000000 in
set_option maxRecDepth 100000 in
theorem cs_J3_checkIndex_8e157_n (l : Launch) (D : va_G) (cl : List vw_C) (aK aV : Nat) (f : Nat → Int32)  (sz : Nat) (k : Nat) (hk : k < 83) : Met l yJ3_checkIndex_8e157 wq_J3_checkIndex_8e157 ({ frames := 0, cells := 0, slots := 0, locals := 0 }) (va_Pc [.int (nI k), .int 83, .null] (sq_W aK aV f .null sz)) (va_Qi (fun (r : Int32) (_ : SQ) => r = nI k) (fun _ => pq_B D cl [] (va_A [] sz)) (va_A [] sz)) 0 0 (va_A [] sz) := by
  refine Met.ofW (cc := cJ3_checkIndex_8e157) (maxL := 3) (ret := (some .int)) (by decide) rfl ?_
  intro p e s m args below meth c s₁ B hml hv
  obtain ⟨rfl, hsz, hF⟩ := hv
  have hx := B.exec
  have hb := B.bytes
  have hr := B.returns
  have hts := atoms_spec (ws := wq_J3_checkIndex_8e157) B.pre
  have hown : s.vm.findClass RJ3 = some m.cls := findClass_of_methodNamed B.named
  have hlocks := B.notSynchronized
  subst hsz
  generalize hAe : va_A [] s.heap.size = A at hF ⊢
  have hA : ∀ q : Nat, s.heap.size ≤ q → A q := fun q h => by rw [← hAe]; exact Or.inr h
  have hS : va_S A s.heap s.heap [] := va_S.rf
  obtain ⟨H, hH⟩ : ∃ H, H = s.heap := ⟨_, rfl⟩
  have hS : va_S A s.heap H [] := by rw [hH]; exact hS
  have hl := lv_entry ([.int (nI k), .int 83, .null]) (n := 3) (Nat.le_of_ble_eq_true rfl)
  rw [lg_entry_eq]
  generalize (lg_sl ([.int (nI k), .int 83, .null]) ++ List.replicate (3 - (lg_sl ([.int (nI k), .int 83, .null])).length) Slot.unset).toArray = ls at hl ⊢
  have hl : lv_has ls 3 [(0, .int (nI k)), (1, .int 83), (2, .null)] := hl
  refine pq_heap hH ?_
  refine lv_iload_n hx hb dJ3_checkIndex_8e157_0 rfl (lv_at hl 0 rfl) ?_
  refine lv_if_lt (tgt := 9) hx hb dJ3_checkIndex_8e157_1 (by decide) (fun c_ => absurd c_ (nI_pos (by omega))) (fun _ => ?_)
  refine lv_iload_n hx hb dJ3_checkIndex_8e157_4 rfl (lv_at hl 0 rfl) ?_
  refine lv_iload_n hx hb dJ3_checkIndex_8e157_5 rfl (lv_at hl 1 rfl) ?_
  refine lv_icmp_lt (tgt := 16) hx hb dJ3_checkIndex_8e157_6 (by decide) (fun _ => ?_) (fun c_ => absurd (show nI k < nI 83 from nI_lt hk (by decide)) c_)
  refine lv_iload_n hx hb dJ3_checkIndex_8e157_16 rfl (lv_at hl 0 rfl) ?_
  refine W.widen (k := 0) (n := 0) (by decide +kernel) (by decide +kernel) ?_
  exact W.iret (v := nI k) hx hb hr (fun t ht hW => ⟨⟨nI k, sq_u [] [], rfl, rfl, pq_B.of ht pq_P0 pq_D0⟩, hS.F ht⟩) hS.2.2 dJ3_checkIndex_8e157_17
set_option maxHeartbeats 4000000 in
set_option maxRecDepth 100000 in
theorem cs_J3_checkIndex_8e157_r (l : Launch) (D : va_G) (cl : List vw_C) (aK aV : Nat) (f : Nat → Int32) (sa : Nat) (sz : Nat) (k : Nat) (hk : k < 83) : Met l yJ3_checkIndex_8e157 wq_J3_checkIndex_8e157 ({ frames := 0, cells := 0, slots := 0, locals := 0 }) (va_Pc [.int (nI k), .int 83, (.ref sa)] (sq_W aK aV f (.ref sa) sz)) (va_Qi (fun (r : Int32) (_ : SQ) => r = nI k) (fun _ => pq_B D cl [] (va_A [] sz)) (va_A [] sz)) 0 0 (va_A [] sz) := by
  refine Met.ofW (cc := cJ3_checkIndex_8e157) (maxL := 3) (ret := (some .int)) (by decide) rfl ?_
  intro p e s m args below meth c s₁ B hml hv
  obtain ⟨rfl, hsz, hF⟩ := hv
  have hx := B.exec
  have hb := B.bytes
  have hr := B.returns
  have hts := atoms_spec (ws := wq_J3_checkIndex_8e157) B.pre
  have hown : s.vm.findClass RJ3 = some m.cls := findClass_of_methodNamed B.named
  have hlocks := B.notSynchronized
  subst hsz
  generalize hAe : va_A [] s.heap.size = A at hF ⊢
  have hA : ∀ q : Nat, s.heap.size ≤ q → A q := fun q h => by rw [← hAe]; exact Or.inr h
  have hS : va_S A s.heap s.heap [] := va_S.rf
  obtain ⟨H, hH⟩ : ∃ H, H = s.heap := ⟨_, rfl⟩
  have hS : va_S A s.heap H [] := by rw [hH]; exact hS
  have hl := lv_entry ([.int (nI k), .int 83, (.ref sa)]) (n := 3) (Nat.le_of_ble_eq_true rfl)
  rw [lg_entry_eq]
  generalize (lg_sl ([.int (nI k), .int 83, (.ref sa)]) ++ List.replicate (3 - (lg_sl ([.int (nI k), .int 83, (.ref sa)])).length) Slot.unset).toArray = ls at hl ⊢
  have hl : lv_has ls 3 [(0, .int (nI k)), (1, .int 83), (2, (.ref sa))] := hl
  refine pq_heap hH ?_
  refine lv_iload_n hx hb dJ3_checkIndex_8e157_0 rfl (lv_at hl 0 rfl) ?_
  refine lv_if_lt (tgt := 9) hx hb dJ3_checkIndex_8e157_1 (by decide) (fun c_ => absurd c_ (nI_pos (by omega))) (fun _ => ?_)
  refine lv_iload_n hx hb dJ3_checkIndex_8e157_4 rfl (lv_at hl 0 rfl) ?_
  refine lv_iload_n hx hb dJ3_checkIndex_8e157_5 rfl (lv_at hl 1 rfl) ?_
  refine lv_icmp_lt (tgt := 16) hx hb dJ3_checkIndex_8e157_6 (by decide) (fun _ => ?_) (fun c_ => absurd (show nI k < nI 83 from nI_lt hk (by decide)) c_)
  refine lv_iload_n hx hb dJ3_checkIndex_8e157_16 rfl (lv_at hl 0 rfl) ?_
  refine W.widen (k := 0) (n := 0) (by decide +kernel) (by decide +kernel) ?_
  exact W.iret (v := nI k) hx hb hr (fun t ht hW => ⟨⟨nI k, sq_u [] [], rfl, rfl, pq_B.of ht pq_P0 pq_D0⟩, hS.F ht⟩) hS.2.2 dJ3_checkIndex_8e157_17
theorem cs_J3_checkIndex_8e157 (l : Launch) (D : va_G) (cl : List vw_C) (aK aV : Nat) (f : Nat → Int32) (sv : Value) (sz : Nat) (k : Nat) (hk : k < 83) (hsv : sv = .null ∨ ∃ a, sv = .ref a) : Met l yJ3_checkIndex_8e157 wq_J3_checkIndex_8e157 ({ frames := 0, cells := 0, slots := 0, locals := 0 }) (va_Pc [.int (nI k), .int 83, sv] (sq_W aK aV f sv sz)) (va_Qi (fun (r : Int32) (_ : SQ) => r = nI k) (fun _ => pq_B D cl [] (va_A [] sz)) (va_A [] sz)) 0 0 (va_A [] sz) := by
  rcases hsv with rfl | ⟨sa, rfl⟩
  · exact cs_J3_checkIndex_8e157_n l D cl aK aV f sz k hk
  · exact cs_J3_checkIndex_8e157_r l D cl aK aV f sa sz k hk
def wq_J0_checkIndex_df160_r1 : List Cond := [Cond.fieldLink RJ0 1053 "jdk/internal/util/Preconditions" "SIOOBE_FORMATTER" "Ljava/util/function/BiFunction;", Cond.code yJ3_checkIndex_8e157 cJ3_checkIndex_8e157 3 (some .int), Cond.methodLink RJ0 1059 yJ3_checkIndex_8e157, Cond.static yJ3_checkIndex_8e157, Cond.initialized RJ3]
def wq_J0_checkIndex_df160 : List Cond := Cond.code yJ0_checkIndex_df160 cJ0_checkIndex_df160 2 none :: (wq_J0_checkIndex_df160_r1)
set_option maxRecDepth 20000 in
theorem gq_J0_checkIndex_df160_J3_checkIndex_8e157_1059 : GoodIn wq_J0_checkIndex_df160 ([Cond.methodLink RJ0 1059 yJ3_checkIndex_8e157] ++ wq_J3_checkIndex_8e157) := goodIn_r _ [3, 2] (by decide +kernel) (by decide +kernel)
set_option maxHeartbeats 4000000 in
set_option maxRecDepth 100000 in
theorem cs_J0_checkIndex_df160 (l : Launch) (D : va_G) (cl : List vw_C) (aK aV : Nat) (f : Nat → Int32) (sv : Value) (sz : Nat) (k : Nat) (hk : k < 83) (hsv : sv = .null ∨ ∃ a, sv = .ref a) : Met l yJ0_checkIndex_df160 wq_J0_checkIndex_df160 ({ frames := 1, cells := 0, slots := 0, locals := 22 }) (va_Pc [.int (nI k), .int 83] (sq_W aK aV f sv sz)) (va_Qv (fun (_ : SQ) => True) (fun _ => pq_B D cl [] (va_A [] sz)) (va_A [] sz)) 0 0 (va_A [] sz) := by
  refine Met.ofW (cc := cJ0_checkIndex_df160) (maxL := 2) (ret := none) (by decide) rfl ?_
  intro p e s m args below meth c s₁ B hml hv
  obtain ⟨rfl, hsz, hF⟩ := hv
  have hx := B.exec
  have hb := B.bytes
  have hr := B.returns
  have hts := atoms_spec (ws := wq_J0_checkIndex_df160) B.pre
  have hown : s.vm.findClass RJ0 = some m.cls := findClass_of_methodNamed B.named
  have hlocks := B.notSynchronized
  subst hsz
  generalize hAe : va_A [] s.heap.size = A at hF ⊢
  have hA : ∀ q : Nat, s.heap.size ≤ q → A q := fun q h => by rw [← hAe]; exact Or.inr h
  have hS : va_S A s.heap s.heap [] := va_S.rf
  obtain ⟨H, hH⟩ : ∃ H, H = s.heap := ⟨_, rfl⟩
  have hS : va_S A s.heap H [] := by rw [hH]; exact hS
  have hl := lv_entry ([.int (nI k), .int 83]) (n := 2) (Nat.le_of_ble_eq_true rfl)
  rw [lg_entry_eq]
  generalize (lg_sl ([.int (nI k), .int 83]) ++ List.replicate (2 - (lg_sl ([.int (nI k), .int 83])).length) Slot.unset).toArray = ls at hl ⊢
  have hl : lv_has ls 2 [(0, .int (nI k)), (1, .int 83)] := hl
  refine pq_heap hH ?_
  refine lv_iload_n hx hb dJ0_checkIndex_df160_0 rfl (lv_at hl 0 rfl) ?_
  refine lv_iload_n hx hb dJ0_checkIndex_df160_1 rfl (lv_at hl 1 rfl) ?_
  refine va_gets hx hb hF.2.2.2.2.2 hS hown (hts (Cond.fieldLink RJ0 1053 "jdk/internal/util/Preconditions" "SIOOBE_FORMATTER" "Ljava/util/function/BiFunction;") (List.mem_of_getElem? (i := 1) rfl)) (fun _ h9 => h9) dJ0_checkIndex_df160_2 ?_
  refine pq_ci (D := D) (cl := cl) (ws := []) (wc := []) (wr := []) (W1 := fun _ => []) (va_runS (As := [.int (nI k), .int 83, sv]) (rest := []) ⟨hx, hb, hml, hown, hts⟩ (cs_J3_checkIndex_8e157 l D cl aK aV f sv H.size k hk hsv) ⟨callB_of 3 hts (fun w h => gq_J0_checkIndex_df160_J3_checkIndex_8e157_1059 w (List.mem_append_right _ h)) rfl rfl rfl (hts (Cond.initialized RJ3) (List.mem_of_getElem? (i := 5) rfl)) (hts (Cond.methodLink RJ0 1059 yJ3_checkIndex_8e157) (List.mem_of_getElem? (i := 3) rfl)) (by decide +kernel) ⟨(by decide +kernel), (by decide +kernel)⟩, (hts (Cond.static yJ3_checkIndex_8e157) (List.mem_of_getElem? (i := 4) rfl))⟩ ⟨sq_blind, sq_pre hF hS hA⟩ rfl rfl hl.1 rfl (lv_room (Nat.le_of_ble_eq_true rfl)) dJ0_checkIndex_df160_5 ⟨(by decide +kernel), (by decide +kernel)⟩) pq_P0 pq_D0 hS hA [] [] rfl rfl rfl (by decide) (fun r2 u1 H locs hw hP hD hS => ?_)
  subst hw
  refine lv_pop hx hb dJ0_checkIndex_df160_8 rfl ?_
  refine W.widen (k := 0) (n := 0) (by decide +kernel) (by decide +kernel) ?_
  exact W.vret hx hb hr (fun t ht hW => ⟨⟨sq_u [] [], rfl, trivial, pq_B.of ht pq_P0 pq_D0⟩, hS.F ht⟩) hS.2.2 dJ0_checkIndex_df160_9
def wq_J1_charAt_3b067_r1 : List Cond := [Cond.code yJ0_checkIndex_df160 cJ0_checkIndex_df160 2 none, Cond.fieldLink RJ0 1053 "jdk/internal/util/Preconditions" "SIOOBE_FORMATTER" "Ljava/util/function/BiFunction;", Cond.code yJ3_checkIndex_8e157 cJ3_checkIndex_8e157 3 (some .int), Cond.methodLink RJ0 1059 yJ3_checkIndex_8e157, Cond.static yJ3_checkIndex_8e157, Cond.initialized RJ3, Cond.methodLink RJ1 9 yJ0_checkIndex_df160, Cond.static yJ0_checkIndex_df160, Cond.initialized RJ0]
def wq_J1_charAt_3b067 : List Cond := Cond.code yJ1_charAt_3b067 cJ1_charAt_3b067 2 (some .char) :: (wq_J1_charAt_3b067_r1)
set_option maxRecDepth 20000 in
theorem gq_J1_charAt_3b067_J0_checkIndex_df160_9 : GoodIn wq_J1_charAt_3b067 ([Cond.methodLink RJ1 9 yJ0_checkIndex_df160] ++ wq_J0_checkIndex_df160) := goodIn_r _ [7, 1, 2, 3, 4, 5, 6] (by decide +kernel) (by decide +kernel)
set_option maxHeartbeats 4000000 in
set_option maxRecDepth 100000 in
theorem cs_J1_charAt_3b067 (l : Launch) (D : va_G) (cl : List vw_C) (aK aV : Nat) (f : Nat → Int32) (sv : Value) (sz : Nat) (k : Nat) (hk : k < 83) (hsv : sv = .null ∨ ∃ a, sv = .ref a) : Met l yJ1_charAt_3b067 wq_J1_charAt_3b067 ({ frames := 2, cells := 0, slots := 0, locals := 43 }) (va_Pc [.ref aV, .int (nI k)] (sq_W aK aV f sv sz)) (va_Qi (fun (r : Int32) (_ : SQ) => r = (((f k) &&& 255).toUInt32 % 65536).toInt32) (fun _ => pq_B D cl [] (va_A [] sz)) (va_A [] sz)) 0 0 (va_A [] sz) := by
  refine Met.ofW (cc := cJ1_charAt_3b067) (maxL := 2) (ret := (some .char)) (by decide) rfl ?_
  intro p e s m args below meth c s₁ B hml hv
  obtain ⟨rfl, hsz, hF⟩ := hv
  have hx := B.exec
  have hb := B.bytes
  have hr := B.returns
  have hts := atoms_spec (ws := wq_J1_charAt_3b067) B.pre
  have hown : s.vm.findClass RJ1 = some m.cls := findClass_of_methodNamed B.named
  have hlocks := B.notSynchronized
  subst hsz
  generalize hAe : va_A [] s.heap.size = A at hF ⊢
  have hA : ∀ q : Nat, s.heap.size ≤ q → A q := fun q h => by rw [← hAe]; exact Or.inr h
  have hS : va_S A s.heap s.heap [] := va_S.rf
  obtain ⟨H, hH⟩ : ∃ H, H = s.heap := ⟨_, rfl⟩
  have hS : va_S A s.heap H [] := by rw [hH]; exact hS
  have hl := lv_entry ([.ref aV, .int (nI k)]) (n := 2) (Nat.le_of_ble_eq_true rfl)
  rw [lg_entry_eq]
  generalize (lg_sl ([.ref aV, .int (nI k)]) ++ List.replicate (2 - (lg_sl ([.ref aV, .int (nI k)])).length) Slot.unset).toArray = ls at hl ⊢
  have hl : lv_has ls 2 [(0, .ref aV), (1, .int (nI k))] := hl
  refine pq_heap hH ?_
  refine lv_iload_n hx hb dJ1_charAt_3b067_0 rfl (lv_at hl 1 rfl) ?_
  refine lv_aload_n hx hb dJ1_charAt_3b067_1 rfl (lv_at hl 0 rfl) ?_
  refine va_tlen (v := 83) hx hb hF.2.2.2.1 hS (by decide) dJ1_charAt_3b067_2 ?_
  refine pq_cv (D := D) (cl := cl) (ws := []) (wc := []) (wr := []) (W1 := fun _ => []) (va_runS (As := [.int (nI k), .int 83]) (rest := []) ⟨hx, hb, hml, hown, hts⟩ (cs_J0_checkIndex_df160 l D cl aK aV f sv H.size k hk hsv) ⟨callB_of 2 hts (fun w h => gq_J1_charAt_3b067_J0_checkIndex_df160_9 w (List.mem_append_right _ h)) rfl rfl rfl (hts (Cond.initialized RJ0) (List.mem_of_getElem? (i := 9) rfl)) (hts (Cond.methodLink RJ1 9 yJ0_checkIndex_df160) (List.mem_of_getElem? (i := 7) rfl)) (by decide +kernel) ⟨(by decide +kernel), (by decide +kernel)⟩, (hts (Cond.static yJ0_checkIndex_df160) (List.mem_of_getElem? (i := 8) rfl))⟩ ⟨sq_blind, sq_pre hF hS hA⟩ rfl rfl hl.1 rfl (lv_room (Nat.le_of_ble_eq_true rfl)) dJ1_charAt_3b067_3 ⟨(by decide +kernel), (by decide +kernel)⟩) pq_P0 pq_D0 hS hA [] [] rfl rfl rfl (by decide) (fun u1 H locs hw hP hD hS => ?_)
  refine lv_aload_n hx hb dJ1_charAt_3b067_6 rfl (lv_at hl 0 rfl) ?_
  refine lv_iload_n hx hb dJ1_charAt_3b067_7 rfl (lv_at hl 1 rfl) ?_
  refine va_tb (v := .int (f k)) hx hb hF.2.2.2.1 hS (vp_in_nI hk (by decide)) (by rw [nI_clamp (by omega)]) dJ1_charAt_3b067_8 ?_
  refine lv_sipush (v := 255) hx hb dJ1_charAt_3b067_9 (by decide) ?_
  refine lv_iand hx hb dJ1_charAt_3b067_12 ?_
  refine lv_i2c (v := (((f k) &&& 255).toUInt32 % 65536).toInt32) hx hb dJ1_charAt_3b067_13 rfl ?_
  refine W.widen (k := 0) (n := 0) (by decide +kernel) (by decide +kernel) ?_
  exact W.zret (v := (((f k) &&& 255).toUInt32 % 65536).toInt32) hx hb hr (pk_nc _) (fun t ht hW => ⟨⟨(((f k) &&& 255).toUInt32 % 65536).toInt32, sq_u [] [], rfl, rfl, pq_B.of ht pq_P0 pq_D0⟩, hS.F ht⟩) hS.2.2 dJ1_charAt_3b067_14
def wq_J0_charAt_5068e_r1 : List Cond := [Cond.code yJ0_isLatin1_aae02 cJ0_isLatin1_aae02 1 (some .boolean), Cond.fieldLink RJ0 38 "java/lang/String" "COMPACT_STRINGS" "Z", Cond.fieldLink RJ0 15 "java/lang/String" "coder" "B", Cond.methodLink RJ0 492 yJ0_isLatin1_aae02, Cond.instanceMethod yJ0_isLatin1_aae02, Cond.selects RJ0 yJ0_isLatin1_aae02 yJ0_isLatin1_aae02, Cond.initialized RJ0, Cond.fieldLink RJ0 9 "java/lang/String" "value" "[B", Cond.code yJ1_charAt_3b067 cJ1_charAt_3b067 2 (some .char), Cond.code yJ0_checkIndex_df160 cJ0_checkIndex_df160 2 none, Cond.fieldLink RJ0 1053 "jdk/internal/util/Preconditions" "SIOOBE_FORMATTER" "Ljava/util/function/BiFunction;", Cond.code yJ3_checkIndex_8e157 cJ3_checkIndex_8e157 3 (some .int), Cond.methodLink RJ0 1059 yJ3_checkIndex_8e157, Cond.static yJ3_checkIndex_8e157, Cond.initialized RJ3, Cond.methodLink RJ1 9 yJ0_checkIndex_df160, Cond.static yJ0_checkIndex_df160, Cond.methodLink RJ0 495 yJ1_charAt_3b067, Cond.static yJ1_charAt_3b067, Cond.initialized RJ1]
def wq_J0_charAt_5068e : List Cond := Cond.code yJ0_charAt_5068e cJ0_charAt_5068e 2 (some .char) :: (wq_J0_charAt_5068e_r1)
set_option maxRecDepth 20000 in
theorem gq_J0_charAt_5068e_J0_isLatin1_aae02_492 : GoodIn wq_J0_charAt_5068e (wsV RJ0 492 RJ0 yJ0_isLatin1_aae02 wq_J0_isLatin1_aae02) := goodIn_r _ [4, 5, 6, 7, 1, 2, 3] (by decide +kernel) (by decide +kernel)
set_option maxRecDepth 20000 in
theorem gq_J0_charAt_5068e_J1_charAt_3b067_495 : GoodIn wq_J0_charAt_5068e ([Cond.methodLink RJ0 495 yJ1_charAt_3b067] ++ wq_J1_charAt_3b067) := goodIn_r _ [18, 9, 10, 11, 12, 13, 14, 15, 16, 17, 7] (by decide +kernel) (by decide +kernel)
set_option maxHeartbeats 4000000 in
set_option maxRecDepth 100000 in
theorem cs_J0_charAt_5068e (l : Launch) (D : va_G) (cl : List vw_C) (aK aV : Nat) (f : Nat → Int32) (sv : Value) (sz : Nat) (k : Nat) (hk : k < 83) (hsv : sv = .null ∨ ∃ a, sv = .ref a) : Met l yJ0_charAt_5068e wq_J0_charAt_5068e ({ frames := 3, cells := 0, slots := 0, locals := 64 }) (va_Pc [.ref aK, .int (nI k)] (sq_W aK aV f sv sz)) (va_Qi (fun (r : Int32) (_ : SQ) => r = (((f k) &&& 255).toUInt32 % 65536).toInt32) (fun _ => pq_B D cl [] (va_A [] sz)) (va_A [] sz)) 0 0 (va_A [] sz) := by
  refine Met.ofW (cc := cJ0_charAt_5068e) (maxL := 2) (ret := (some .char)) (by decide) rfl ?_
  intro p e s m args below meth c s₁ B hml hv
  obtain ⟨rfl, hsz, hF⟩ := hv
  have hx := B.exec
  have hb := B.bytes
  have hr := B.returns
  have hts := atoms_spec (ws := wq_J0_charAt_5068e) B.pre
  have hown : s.vm.findClass RJ0 = some m.cls := findClass_of_methodNamed B.named
  have hlocks := B.notSynchronized
  subst hsz
  generalize hAe : va_A [] s.heap.size = A at hF ⊢
  have hA : ∀ q : Nat, s.heap.size ≤ q → A q := fun q h => by rw [← hAe]; exact Or.inr h
  have hS : va_S A s.heap s.heap [] := va_S.rf
  obtain ⟨H, hH⟩ : ∃ H, H = s.heap := ⟨_, rfl⟩
  have hS : va_S A s.heap H [] := by rw [hH]; exact hS
  have hl := lv_entry ([.ref aK, .int (nI k)]) (n := 2) (Nat.le_of_ble_eq_true rfl)
  rw [lg_entry_eq]
  generalize (lg_sl ([.ref aK, .int (nI k)]) ++ List.replicate (2 - (lg_sl ([.ref aK, .int (nI k)])).length) Slot.unset).toArray = ls at hl ⊢
  have hl : lv_has ls 2 [(0, .ref aK), (1, .int (nI k))] := hl
  refine pq_heap hH ?_
  refine lv_aload_n hx hb dJ0_charAt_5068e_0 rfl (lv_at hl 0 rfl) ?_
  refine pq_ci (D := D) (cl := cl) (ws := []) (wc := []) (wr := []) (W1 := fun _ => []) (va_runV (As := []) (rest := []) ⟨hx, hb, hml, hown, hts⟩ (cs_J0_isLatin1_aae02 l D cl aK aV f sv H.size) (cwV 0 hts gq_J0_charAt_5068e_J0_isLatin1_aae02_492 rfl rfl rfl (by decide +kernel) ⟨(by decide +kernel), (by decide +kernel)⟩) ⟨sq_blind, sq_recv hF hS, sq_pre hF hS hA⟩ rfl rfl hl.1 rfl (lv_room (Nat.le_of_ble_eq_true rfl)) dJ0_charAt_5068e_1 ⟨(by decide +kernel), (by decide +kernel)⟩) pq_P0 pq_D0 hS hA [] [] rfl rfl rfl (by decide) (fun r2 u1 H locs hw hP hD hS => ?_)
  subst hw
  refine lv_if_eq (tgt := 16) hx hb dJ0_charAt_5068e_4 (by decide) (fun c_ => absurd c_ (by decide)) (fun _ => ?_)
  refine lv_aload_n hx hb dJ0_charAt_5068e_7 rfl (lv_at hl 0 rfl) ?_
  refine vk_getf hx hb hF.2.2.1 hS hown (hts (Cond.fieldLink RJ0 9 "java/lang/String" "value" "[B") (List.mem_of_getElem? (i := 8) rfl)) (fun _ h9 => h9) dJ0_charAt_5068e_8 ?_
  refine lv_iload_n hx hb dJ0_charAt_5068e_11 rfl (lv_at hl 1 rfl) ?_
  refine pq_ci (D := D) (cl := cl) (ws := []) (wc := []) (wr := []) (W1 := fun _ => []) (va_runS (As := [.ref aV, .int (nI k)]) (rest := []) ⟨hx, hb, hml, hown, hts⟩ (cs_J1_charAt_3b067 l D cl aK aV f sv H.size k hk hsv) ⟨callB_of 2 hts (fun w h => gq_J0_charAt_5068e_J1_charAt_3b067_495 w (List.mem_append_right _ h)) rfl rfl rfl (hts (Cond.initialized RJ1) (List.mem_of_getElem? (i := 20) rfl)) (hts (Cond.methodLink RJ0 495 yJ1_charAt_3b067) (List.mem_of_getElem? (i := 18) rfl)) (by decide +kernel) ⟨(by decide +kernel), (by decide +kernel)⟩, (hts (Cond.static yJ1_charAt_3b067) (List.mem_of_getElem? (i := 19) rfl))⟩ ⟨sq_blind, sq_pre hF hS hA⟩ rfl rfl hl.1 rfl (lv_room (Nat.le_of_ble_eq_true rfl)) dJ0_charAt_5068e_12 ⟨(by decide +kernel), (by decide +kernel)⟩) pq_P0 pq_D0 hS hA [] [] rfl rfl rfl (by decide) (fun r4 u3 H locs hw hP hD hS => ?_)
  subst hw
  refine W.widen (k := 0) (n := 0) (by decide +kernel) (by decide +kernel) ?_
  exact W.zret (v := (((f k) &&& 255).toUInt32 % 65536).toInt32) hx hb hr (pk_nc _) (fun t ht hW => ⟨⟨(((f k) &&& 255).toUInt32 % 65536).toInt32, sq_u [] [], rfl, rfl, pq_B.of ht pq_P0 pq_D0⟩, hS.F ht⟩) hS.2.2 dJ0_charAt_5068e_15
def wq_X2_init_r1 : List Cond := [Cond.methodLink RX2 1 objectInit, Cond.instanceMethod objectInit, Cond.code objectInit ⟨#[0xb1]⟩ 1 none, Cond.arrayClass .long, Cond.fieldLink RX2 9 "CodePress$Lexer" "words" "[J", Cond.fieldLink RX2 13 "CodePress$Lexer" "text" "[B", Cond.code yJ0_length_8abf5 cJ0_length_8abf5 1 (some .int), Cond.fieldLink RJ0 9 "java/lang/String" "value" "[B", Cond.code yJ0_coder_7d493 cJ0_coder_7d493 1 (some .byte), Cond.fieldLink RJ0 38 "java/lang/String" "COMPACT_STRINGS" "Z", Cond.fieldLink RJ0 15 "java/lang/String" "coder" "B", Cond.methodLink RJ0 335 yJ0_coder_7d493, Cond.instanceMethod yJ0_coder_7d493, Cond.selects RJ0 yJ0_coder_7d493 yJ0_coder_7d493, Cond.initialized RJ0, Cond.methodLink RX2 19 yJ0_length_8abf5, Cond.instanceMethod yJ0_length_8abf5, Cond.selects RJ0 yJ0_length_8abf5 yJ0_length_8abf5, Cond.code yJ0_charAt_5068e cJ0_charAt_5068e 2 (some .char), Cond.code yJ0_isLatin1_aae02 cJ0_isLatin1_aae02 1 (some .boolean), Cond.methodLink RJ0 492 yJ0_isLatin1_aae02, Cond.instanceMethod yJ0_isLatin1_aae02, Cond.selects RJ0 yJ0_isLatin1_aae02 yJ0_isLatin1_aae02, Cond.code yJ1_charAt_3b067 cJ1_charAt_3b067 2 (some .char)]
def wq_X2_init_r2 : List Cond := [Cond.code yJ0_checkIndex_df160 cJ0_checkIndex_df160 2 none, Cond.fieldLink RJ0 1053 "jdk/internal/util/Preconditions" "SIOOBE_FORMATTER" "Ljava/util/function/BiFunction;", Cond.code yJ3_checkIndex_8e157 cJ3_checkIndex_8e157 3 (some .int), Cond.methodLink RJ0 1059 yJ3_checkIndex_8e157, Cond.static yJ3_checkIndex_8e157, Cond.initialized RJ3, Cond.methodLink RJ1 9 yJ0_checkIndex_df160, Cond.static yJ0_checkIndex_df160, Cond.methodLink RJ0 495 yJ1_charAt_3b067, Cond.static yJ1_charAt_3b067, Cond.initialized RJ1, Cond.methodLink RX2 25 yJ0_charAt_5068e, Cond.instanceMethod yJ0_charAt_5068e, Cond.selects RJ0 yJ0_charAt_5068e yJ0_charAt_5068e]
def wq_X2_init : List Cond := Cond.code yX2_init cX2_init 7 none :: ((wq_X2_init_r1 ++ wq_X2_init_r2) ++ wsX20)
theorem iq_X2_init_X2 : ∀ w ∈ wsX20, w ∈ wq_X2_init := fun _ h => List.mem_cons_of_mem _ (List.mem_append_right _ h)
set_option maxRecDepth 20000 in
theorem gq_X2_init_J0_length_8abf5_19 : GoodIn wq_X2_init (wsV RX2 19 RJ0 yJ0_length_8abf5 wq_J0_length_8abf5) := goodIn_r _ [16, 17, 18, 15, 7, 8, 9, 10, 11, 12, 13, 14, 15] (by decide +kernel) (by decide +kernel)
set_option maxRecDepth 20000 in
theorem gq_X2_init_J0_charAt_5068e_25 : GoodIn wq_X2_init (wsV RX2 25 RJ0 yJ0_charAt_5068e wq_J0_charAt_5068e) := goodIn_r _ [36, 37, 38, 15, 19, 20, 10, 11, 21, 22, 23, 15, 8, 24, 25, 26, 27, 28, 29, 30, 31, 32, 33, 34, 35] (by decide +kernel) (by decide +kernel)
set_option maxHeartbeats 8000000 in
set_option maxRecDepth 100000 in
theorem cq_X2_init (l : Launch) (dC : Nat → ClassId) (dI : Nat → Nat → Nat) (cB cI cJ cZ : ClassId) (h0 : Nat) (a0 : Nat) (aK aV : Nat) (f : Nat → Int32) (sv : Value) (sz : Nat) (hsv : sv = .null ∨ ∃ a, sv = .ref a) : Met l yX2_init wq_X2_init ({ frames := 4, cells := 1, slots := 19, locals := 85 }) (va_Pc [.ref h0, .ref a0] (pq_WS (dC, dI) vwCl (tyQ cB cI cJ cZ) [(h0, .inr (2, [.null, .null, .int 0, .int 0, .int 0, .int 0, .int 0, .long 0]))] sz RX2 17 aK aV f sv)) (va_Qv (fun (_ : SQ) => True) (fun u => pq_B (dC, dI) vwCl [(h0, .inr (2, [.ref a0, .ref (u.1 0), .int 0, .int 0, .int 0, .int 0, .int 0, .long 0]))] (va_A [(h0, .inr (2, [.null, .null, .int 0, .int 0, .int 0, .int 0, .int 0, .long 0]))] sz)) (va_A [(h0, .inr (2, [.null, .null, .int 0, .int 0, .int 0, .int 0, .int 0, .long 0]))] sz)) 1 19 (va_A [(h0, .inr (2, [.null, .null, .int 0, .int 0, .int 0, .int 0, .int 0, .long 0]))] sz) := by
  refine Met.ofW (cc := cX2_init) (maxL := 7) (ret := none) (by decide) rfl ?_
  intro p e s m args below meth c s₁ B hml hv
  obtain ⟨rfl, ⟨hsz, hP, hK, hD0⟩, hR, hF⟩ := hv
  have hx := B.exec
  have hb := B.bytes
  have hr := B.returns
  have hts := atoms_spec (ws := wq_X2_init) B.pre
  have hown : s.vm.findClass RX2 = some m.cls := findClass_of_methodNamed B.named
  have hlocks := B.notSynchronized
  have hin : meth.name = "<init>" := (name_of_methodNamed B.named B.method).1
  subst hsz
  have hD := hD0.self (sz := s.heap.size)
  generalize hAe : va_A [(h0, .inr (2, [.null, .null, .int 0, .int 0, .int 0, .int 0, .int 0, .long 0]))] s.heap.size = A at hD hF ⊢
  have hA : ∀ q : Nat, s.heap.size ≤ q → A q := fun q h => by rw [← hAe]; exact Or.inr h
  have hS : va_S A s.heap s.heap [] := va_S.rf
  have hP : va_P (dC, dI) vwCl [(h0, .inr (2, [.null, .null, .int 0, .int 0, .int 0, .int 0, .int 0, .long 0]))] s.heap := hP
  obtain ⟨H, hH⟩ : ∃ H, H = s.heap := ⟨_, rfl⟩
  rw [← hH] at hP
  have hS : va_S A s.heap H [] := by rw [hH]; exact hS
  have hl := lv_entry ([.ref h0, .ref a0]) (n := 7) (Nat.le_of_ble_eq_true rfl)
  rw [lg_entry_eq]
  generalize (lg_sl ([.ref h0, .ref a0]) ++ List.replicate (7 - (lg_sl ([.ref h0, .ref a0])).length) Slot.unset).toArray = ls at hl ⊢
  have hl : lv_has ls 7 [(0, .ref h0), (1, .ref a0)] := hl
  refine pq_heap hH ?_
  refine lv_aload_n hx hb dX2_init_0 rfl (lv_at hl 0 rfl) ?_
  refine W.objInit hx hb hown (hts (Cond.methodLink RX2 1 objectInit) (List.mem_of_getElem? (i := 1) rfl)) (hts (Cond.instanceMethod objectInit) (List.mem_of_getElem? (i := 2) rfl)) (hts (Cond.code objectInit ⟨#[0xb1]⟩ 1 none) (List.mem_of_getElem? (i := 3) rfl)) rfl (by rw [hml]; exact hl.1) rfl dX2_init_1 (Nat.le_of_ble_eq_true rfl) (Nat.le_of_ble_eq_true rfl) ?_
  refine W.eq (g2 := F0 m 4 ls []) rfl ?_
  refine lv_aload_n hx hb dX2_init_4 rfl (lv_at hl 0 rfl) ?_
  refine lv_bipush (v := 19) hx hb dX2_init_5 (by decide) ?_
  refine pq_newa (atype := .long) (ty := .long) (N' := 19) (a0 := (19, .inr (.inl (fun _ => 0)))) hx hb (hts (Cond.arrayClass .long) (List.mem_of_getElem? (i := 4) rfl)) rfl hK hP hD hS hA 2 rfl (fun _ => rfl) (by decide) (by decide) (by decide +kernel) (by decide +kernel) (by decide +kernel) dX2_init_7 (fun q1 H hP hD hS => ?_)
  have hP : va_P (dC, dI) vwCl [(h0, .inr (2, [.null, .null, .int 0, .int 0, .int 0, .int 0, .int 0, .long 0])), (q1, .inl (cJ, 19, .inr (.inl (fun _ => 0))))] H := hP
  have hD : va_D A [(h0, .inr (2, [.null, .null, .int 0, .int 0, .int 0, .int 0, .int 0, .long 0])), (q1, .inl (cJ, 19, .inr (.inl (fun _ => 0))))] := hD
  refine W.widen (k := 1) (n := 19) (by decide +kernel) (by decide +kernel) ?_
  refine va_putF (D := (dC, dI)) (ci := 2) (v := .ref q1) (ty := .array .long) (C := RX2) (T := TX2) (N := 8) hx hb hts iq_X2_init_X2 tyX2 tyX2_ok nmX2 hown hK hP hD hS 0 rfl rfl 1 (by decide) (hts (Cond.fieldLink RX2 9 "CodePress$Lexer" "words" "[J") (List.mem_of_getElem? (i := 5) rfl)) (fun _ h9 => h9) rfl hin rfl (by decide +kernel) rfl rfl (Nat.le_of_ble_eq_true rfl) dX2_init_9 (fun H locs hP hD hS => ?_)
  have hP : va_P (dC, dI) vwCl [(h0, .inr (2, [.null, .ref q1, .int 0, .int 0, .int 0, .int 0, .int 0, .long 0])), (q1, .inl (cJ, 19, .inr (.inl (fun _ => 0))))] H := hP
  have hD : va_D A [(h0, .inr (2, [.null, .ref q1, .int 0, .int 0, .int 0, .int 0, .int 0, .long 0])), (q1, .inl (cJ, 19, .inr (.inl (fun _ => 0))))] := hD
  refine lv_aload_n hx hb dX2_init_12 rfl (lv_at hl 0 rfl) ?_
  refine lv_aload_n hx hb dX2_init_13 rfl (lv_at hl 1 rfl) ?_
  refine va_putF (D := (dC, dI)) (ci := 2) (v := .ref a0) (ty := .array .byte) (C := RX2) (T := TX2) (N := 8) hx hb hts iq_X2_init_X2 tyX2 tyX2_ok nmX2 hown hK hP hD hS 0 rfl rfl 0 (by decide) (hts (Cond.fieldLink RX2 13 "CodePress$Lexer" "text" "[B") (List.mem_of_getElem? (i := 6) rfl)) (fun _ h9 => h9) rfl hin rfl (by decide +kernel) rfl rfl (Nat.le_of_ble_eq_true rfl) dX2_init_14 (fun H locs hP hD hS => ?_)
  have hP : va_P (dC, dI) vwCl [(h0, .inr (2, [.ref a0, .ref q1, .int 0, .int 0, .int 0, .int 0, .int 0, .long 0])), (q1, .inl (cJ, 19, .inr (.inl (fun _ => 0))))] H := hP
  have hD : va_D A [(h0, .inr (2, [.ref a0, .ref q1, .int 0, .int 0, .int 0, .int 0, .int 0, .long 0])), (q1, .inl (cJ, 19, .inr (.inl (fun _ => 0))))] := hD
  refine lv_lconst (v := 0) hx hb dX2_init_17 (by decide) ?_
  refine lv_lstore_n (lv' := [(2, .long 0), (0, .ref h0), (1, .ref a0)]) hx hb dX2_init_18 rfl hl (by decide) rfl (fun ls hl => ?_)
  refine lv_iconst (v := 0) hx hb dX2_init_19 (by decide) ?_
  refine lv_istore (lv' := [(4, .int 0), (2, .long 0), (0, .ref h0), (1, .ref a0)]) hx hb dX2_init_20 hl (by decide) rfl (fun ls hl => ?_)
  refine lv_iconst (v := 0) hx hb dX2_init_22 (by decide) ?_
  refine lv_istore (lv' := [(5, .int 0), (4, .int 0), (2, .long 0), (0, .ref h0), (1, .ref a0)]) hx hb dX2_init_23 hl (by decide) rfl (fun ls hl => ?_)
  have loop : ∀ (n k j : Nat) (w : Int64) (g : Nat → Int64) (H : Heap) (locs : List Loc) (ls : Array Slot), 83 < k + n → k ≤ 83 → j ≤ 19 → va_P (dC, dI) vwCl [(h0, .inr (2, [.ref a0, .ref q1, .int 0, .int 0, .int 0, .int 0, .int 0, .long 0])), (q1, .inl (cJ, 19, .inr (.inl g)))] H → va_D A [(h0, .inr (2, [.ref a0, .ref q1, .int 0, .int 0, .int 0, .int 0, .int 0, .long 0])), (q1, .inl (cJ, 19, .inr (.inl g)))] → va_S A s.heap H locs → lv_has ls 7 [(5, .int (nI k)), (4, .int (nI j)), (2, .long w), (0, .ref h0), (1, .ref a0)] → W p l e (headSpec wq_X2_init ({ frames := 4, cells := 1, slots := 19, locals := 85 })).room s m ([.ref h0, .ref a0] : List Value).toArray below meth c H locs 1 19 (MQ below (va_Qv (fun (_ : SQ) => True) (fun u => pq_B (dC, dI) vwCl [(h0, .inr (2, [.ref a0, .ref (u.1 0), .int 0, .int 0, .int 0, .int 0, .int 0, .long 0]))] A) A) ([.ref h0, .ref a0] : List Value).toArray s 1 19 A) (F0 m 25 ls []) := by
    intro n
    induction n with
    | zero => intro k j w g H locs ls hn hk; exact absurd hn (by omega)
    | succ n ih =>
      intro k j w g H locs ls hn hk hj hP hD hS hl
      refine lv_iload hx hb dX2_init_25 (lv_at hl 0 rfl) ?_
      refine va_ldcS hx hb hown hR dX2_init_27 ?_
      refine pq_ci (D := (dC, dI)) (cl := vwCl) (ws := [(h0, .inr (2, [.ref a0, .ref q1, .int 0, .int 0, .int 0, .int 0, .int 0, .long 0])), (q1, .inl (cJ, 19, .inr (.inl g)))]) (wc := []) (wr := [(h0, .inr (2, [.ref a0, .ref q1, .int 0, .int 0, .int 0, .int 0, .int 0, .long 0])), (q1, .inl (cJ, 19, .inr (.inl g)))]) (W1 := fun _ => []) (va_runV (As := []) (rest := [.int (nI k)]) ⟨hx, hb, hml, hown, hts⟩ (cs_J0_length_8abf5 l (dC, dI) vwCl aK aV f sv H.size) (cwV 0 hts gq_X2_init_J0_length_8abf5_19 rfl rfl rfl (by decide +kernel) ⟨(by decide +kernel), (by decide +kernel)⟩) ⟨sq_blind, sq_recv hF hS, sq_pre hF hS hA⟩ rfl rfl hl.1 rfl (lv_room (Nat.le_of_ble_eq_true rfl)) dX2_init_29 ⟨(by decide +kernel), (by decide +kernel)⟩) hP hD hS hA [] [0, 1] rfl rfl rfl (by decide) (fun r3 u2 H locs hw hP hD hS => ?_)
      subst hw
      have hP : va_P (dC, dI) vwCl [(h0, .inr (2, [.ref a0, .ref q1, .int 0, .int 0, .int 0, .int 0, .int 0, .long 0])), (q1, .inl (cJ, 19, .inr (.inl g)))] H := hP
      have hD : va_D A [(h0, .inr (2, [.ref a0, .ref q1, .int 0, .int 0, .int 0, .int 0, .int 0, .long 0])), (q1, .inl (cJ, 19, .inr (.inl g)))] := hD
      refine lv_icmp_ge (tgt := 89) hx hb dX2_init_32 (by decide) (fun c1 => ?_) (fun c1 => ?_)
      · have hP9 := pq_P.pick (wc := [(h0, .inr (2, [.ref a0, .ref q1, .int 0, .int 0, .int 0, .int 0, .int 0, .long 0]))]) hP [0] rfl
        have hD9 := hD.sub (ws' := [(h0, .inr (2, [.ref a0, .ref q1, .int 0, .int 0, .int 0, .int 0, .int 0, .long 0]))]) [0] (by decide) rfl
        refine W.widen (k := 1) (n := 19) (by decide +kernel) (by decide +kernel) ?_
        exact W.vret hx hb hr (fun t ht hW => ⟨⟨sq_u [q1] [], rfl, trivial, pq_B.of ht hP9 hD9⟩, hS.F ht⟩) hS.2.2 dX2_init_89
      · have hk1 : k < 83 := by
          rcases Nat.lt_or_ge k 83 with z | z
          · exact z
          · exact absurd (show nI 83 ≤ nI k from nI_le z (by omega)) c1
        refine va_ldcS hx hb hown hR dX2_init_35 ?_
        refine lv_iload hx hb dX2_init_37 (lv_at hl 0 rfl) ?_
        refine pq_ci (D := (dC, dI)) (cl := vwCl) (ws := [(h0, .inr (2, [.ref a0, .ref q1, .int 0, .int 0, .int 0, .int 0, .int 0, .long 0])), (q1, .inl (cJ, 19, .inr (.inl g)))]) (wc := []) (wr := [(h0, .inr (2, [.ref a0, .ref q1, .int 0, .int 0, .int 0, .int 0, .int 0, .long 0])), (q1, .inl (cJ, 19, .inr (.inl g)))]) (W1 := fun _ => []) (va_runV (As := [.int (nI k)]) (rest := []) ⟨hx, hb, hml, hown, hts⟩ (cs_J0_charAt_5068e l (dC, dI) vwCl aK aV f sv H.size k hk1 hsv) (cwV 1 hts gq_X2_init_J0_charAt_5068e_25 rfl rfl rfl (by decide +kernel) ⟨(by decide +kernel), (by decide +kernel)⟩) ⟨sq_blind, sq_recv hF hS, sq_pre hF hS hA⟩ rfl rfl hl.1 rfl (lv_room (Nat.le_of_ble_eq_true rfl)) dX2_init_39 ⟨(by decide +kernel), (by decide +kernel)⟩) hP hD hS hA [] [0, 1] rfl rfl rfl (by decide) (fun r5 u4 H locs hw hP hD hS => ?_)
        have hP : va_P (dC, dI) vwCl [(h0, .inr (2, [.ref a0, .ref q1, .int 0, .int 0, .int 0, .int 0, .int 0, .long 0])), (q1, .inl (cJ, 19, .inr (.inl g)))] H := hP
        have hD : va_D A [(h0, .inr (2, [.ref a0, .ref q1, .int 0, .int 0, .int 0, .int 0, .int 0, .long 0])), (q1, .inl (cJ, 19, .inr (.inl g)))] := hD
        refine lv_istore (lv' := [(6, .int r5), (5, .int (nI k)), (4, .int (nI j)), (2, .long w), (0, .ref h0), (1, .ref a0)]) hx hb dX2_init_42 hl (by decide) rfl (fun ls hl => ?_)
        refine lv_iload hx hb dX2_init_44 (lv_at hl 0 rfl) ?_
        refine lv_bipush (v := 32) hx hb dX2_init_46 (by decide) ?_
        refine lv_icmp_eq (tgt := 63) hx hb dX2_init_48 (by decide) (fun c2 => ?_) (fun c2 => ?_)
        · refine W.widen (k := 1) (n := 19) (Nat.le_refl _) (Nat.le_refl _) ?_
          refine lv_iload hx hb dX2_init_63 (lv_at hl 2 rfl) ?_
          refine lv_bipush (v := 19) hx hb dX2_init_65 (by decide) ?_
          refine lv_icmp_ge (tgt := 83) hx hb dX2_init_67 (by decide) (fun c3 => ?_) (fun c3 => ?_)
          · refine W.widen (k := 1) (n := 19) (Nat.le_refl _) (Nat.le_refl _) ?_
            refine lv_iinc (v := nI (k + 1)) (lv' := [(5, .int (nI (k + 1))), (6, .int r5), (4, .int (nI j)), (2, .long w), (0, .ref h0), (1, .ref a0)]) hx hb dX2_init_83 hl (k := 1) rfl (show nI k + Int32.ofInt 1 = nI (k + 1) from nI_1 k) (by decide) rfl (fun ls hl => ?_)
            refine lv_goto (tgt := 25) hx hb dX2_init_86 (by decide) ?_
            exact ih (k + 1) j _ _ H locs ls (by omega) (by omega) (by omega) hP hD hS (lv_sub hl [0, 2, 3, 4, 5] rfl)
          · have hj1 : j < 19 := by
              rcases Nat.lt_or_ge j 19 with z | z
              · exact z
              · exact absurd (show nI 19 ≤ nI j from nI_le z (by omega)) c3
            refine lv_aload_n hx hb dX2_init_70 rfl (lv_at hl 4 rfl) ?_
            refine va_get (D := (dC, dI)) (ci := 2) (v := .ref q1) (C := RX2) (T := TX2) (N := 8) hx hb hts iq_X2_init_X2 hown hK hP 0 rfl rfl 1 (by decide) (hts (Cond.fieldLink RX2 9 "CodePress$Lexer" "words" "[J") (List.mem_of_getElem? (i := 5) rfl)) (fun _ h9 => h9) rfl dX2_init_71 ?_
            refine lv_iload hx hb dX2_init_74 (lv_at hl 2 rfl) ?_
            refine lv_lload_n hx hb dX2_init_76 rfl (lv_at hl 3 rfl) ?_
            refine va_last hx hb hK hP hD hS 1 2 rfl rfl (vp_in_nI hj1 (by decide)) dX2_init_77 (fun H locs hP hD hS => ?_)
            have hP : va_P (dC, dI) vwCl [(h0, .inr (2, [.ref a0, .ref q1, .int 0, .int 0, .int 0, .int 0, .int 0, .long 0])), (q1, .inl (cJ, 19, .inr (.inl (vp_updL g (nI j).toNatClampNeg w))))] H := hP
            have hD : va_D A [(h0, .inr (2, [.ref a0, .ref q1, .int 0, .int 0, .int 0, .int 0, .int 0, .long 0])), (q1, .inl (cJ, 19, .inr (.inl (vp_updL g (nI j).toNatClampNeg w))))] := hD
            refine lv_iinc (v := nI (j + 1)) (lv' := [(4, .int (nI (j + 1))), (6, .int r5), (5, .int (nI k)), (2, .long w), (0, .ref h0), (1, .ref a0)]) hx hb dX2_init_78 hl (k := 2) rfl (show nI j + Int32.ofInt 1 = nI (j + 1) from nI_1 j) (by decide) rfl (fun ls hl => ?_)
            refine lv_lconst (v := 0) hx hb dX2_init_81 (by decide) ?_
            refine lv_lstore_n (lv' := [(2, .long 0), (4, .int (nI (j + 1))), (6, .int r5), (5, .int (nI k)), (0, .ref h0), (1, .ref a0)]) hx hb dX2_init_82 rfl hl (by decide) rfl (fun ls hl => ?_)
            refine lv_iinc (v := nI (k + 1)) (lv' := [(5, .int (nI (k + 1))), (2, .long 0), (4, .int (nI (j + 1))), (6, .int r5), (0, .ref h0), (1, .ref a0)]) hx hb dX2_init_83 hl (k := 3) rfl (show nI k + Int32.ofInt 1 = nI (k + 1) from nI_1 k) (by decide) rfl (fun ls hl => ?_)
            refine lv_goto (tgt := 25) hx hb dX2_init_86 (by decide) ?_
            exact ih (k + 1) (j + 1) _ _ H locs ls (by omega) (by omega) (by omega) hP hD hS (lv_sub hl [0, 2, 1, 4, 5] rfl)
        · refine W.widen (k := 1) (n := 19) (Nat.le_refl _) (Nat.le_refl _) ?_
          refine lv_lload_n hx hb dX2_init_51 rfl (lv_at hl 3 rfl) ?_
          refine lv_bipush (v := 8) hx hb dX2_init_52 (by decide) ?_
          refine lv_lshl (v := w <<< ((8 : Int32).toInt64 &&& 63)) hx hb dX2_init_54 rfl ?_
          refine lv_topl (fun x6 ex6 => ?_)
          refine lv_iload hx hb dX2_init_55 (lv_at hl 0 rfl) ?_
          refine lv_i2l (v := r5.toInt64) hx hb dX2_init_57 rfl ?_
          refine lv_lor hx hb dX2_init_58 ?_
          refine lv_topl (fun x7 ex7 => ?_)
          refine lv_lstore_n (lv' := [(2, .long x7), (6, .int r5), (5, .int (nI k)), (4, .int (nI j)), (0, .ref h0), (1, .ref a0)]) hx hb dX2_init_59 rfl hl (by decide) rfl (fun ls hl => ?_)
          refine lv_goto (tgt := 83) hx hb dX2_init_60 (by decide) ?_
          refine lv_iinc (v := nI (k + 1)) (lv' := [(5, .int (nI (k + 1))), (2, .long x7), (6, .int r5), (4, .int (nI j)), (0, .ref h0), (1, .ref a0)]) hx hb dX2_init_83 hl (k := 2) rfl (show nI k + Int32.ofInt 1 = nI (k + 1) from nI_1 k) (by decide) rfl (fun ls hl => ?_)
          refine lv_goto (tgt := 25) hx hb dX2_init_86 (by decide) ?_
          exact ih (k + 1) j _ _ H locs ls (by omega) (by omega) (by omega) hP hD hS (lv_sub hl [0, 3, 1, 4, 5] rfl)
  exact loop 84 0 0 0 _ H _ ls (by omega) (by omega) (by omega) hP hD hS (lv_sub hl [0, 1, 2, 3, 4] rfl)
