/-! My own rows that the generated walks use: one table of array kinds, one shape of contract. -/
abbrev tyQ (cB cI cJ cZ : ClassId) : List (ClassId × FieldType) := [(cB, .byte), (cI, .int), (cJ, .long), (cZ, .boolean)]
abbrev SQ : Type := (Nat → Nat) × (Nat → Nat → Int32)
/-- addresses and contents that a method leaves, by places -/
abbrev sq_u (l : List Nat) (f : List (Nat → Int32)) : SQ := (fun k => l.getD k 0, fun k => f.getD k (fun _ => 0))
/-- a start: the world ws, the heap's size, what else is known of the state -/
def pq_W (D : va_G) (cl : List vw_C) (tys : List (ClassId × FieldType)) (ws : va_W) (sz : Nat) : State → Prop := fun U => U.heap.size = sz ∧ va_P D cl ws U.heap ∧ va_K D cl tys U ∧ va_D (fun _ => True) ws
/-- an end: the world ws -/
def pq_B (D : va_G) (cl : List vw_C) (ws : va_W) (A : Nat → Prop) : State → Prop := fun t => va_P D cl ws t.heap ∧ va_D A ws
theorem pq_blind {av : List Value} {D : va_G} {cl : List vw_C} {tys : List (ClassId × FieldType)} {ws : va_W} {sz : Nat} : FrameBlind (va_Pc av (pq_W D cl tys ws sz)) := by
  intro a U g mk q
  obtain ⟨q0, q1, qP, qK, qD⟩ := q
  exact ⟨q0, q1, qP, va_K.moved (u := U) (U := U.calling g mk a) (Vm.Alike.refl U.vm) qK, qD⟩
theorem pq_pre {s : State} {H : Heap} {av : List Value} {D : va_G} {cl : List vw_C} {tys : List (ClassId × FieldType)} {ws wc : va_W} {A : Nat → Prop} (hK : va_K D cl tys s) (hP : va_P D cl ws H) (hD : va_D A ws) (isC : List Nat) (hC : isC.map (fun i => ws[i]?) = wc.map some) (hn : va_nd isC = true) : ∀ U : State, U.heap = H → s.WarmedH U.vm → va_Pc av (pq_W D cl tys wc H.size) av.toArray U := by
  intro U hU hW
  have h1 : va_P D cl wc H := by
    intro k q hk
    have h1 : (isC.map (fun i => ws[i]?))[k]? = some (some q) := by rw [hC, List.getElem?_map, hk]; rfl
    rw [List.getElem?_map] at h1
    cases hi : isC[k]? with
    | none => rw [hi] at h1; cases h1
    | some i => rw [hi] at h1; exact hP i q (Option.some.inj h1)
  exact ⟨rfl, by rw [hU], by rw [hU]; exact h1, va_K.moved hW.alike hK, (hD.sub isC hn hC).weaken (fun _ _ _ _ => trivial)⟩
theorem pq_in {i : Int32} {n : Nat} (h : (decide (i < 0) || decide (n ≤ i.toNatClampNeg)) = false) : vp_in i n := by
  intro q
  rcases q with q | q
  · simp [q] at h
  · simp [q] at h
theorem pq_P.pick {D : va_G} {cl : List vw_C} {ws wc : va_W} {H : Heap} (hP : va_P D cl ws H) (isC : List Nat) (hC : isC.map (fun i => ws[i]?) = wc.map some) : va_P D cl wc H := by
  intro k q hk
  have h1 : (isC.map (fun i => ws[i]?))[k]? = some (some q) := by rw [hC, List.getElem?_map, hk]; rfl
  rw [List.getElem?_map] at h1
  cases hi : isC[k]? with
  | none => rw [hi] at h1; cases h1
  | some i => rw [hi] at h1; exact hP i q (Option.some.inj h1)
theorem pq_B.of {D : va_G} {cl : List vw_C} {ws : va_W} {A : Nat → Prop} {t : State} {H : Heap} (ht : t.heap = H) (hP : va_P D cl ws H) (hD : va_D A ws) : pq_B D cl ws A t := ⟨by rw [ht]; exact hP, hD⟩
/-- world and apartness at once -/
def pq_R (D : va_G) (cl : List vw_C) (A : Nat → Prop) (ws : va_W) (H : Heap) : Prop := va_P D cl ws H ∧ va_D A ws
section PQ
variable {p : Program} {l : Launch} {e : Env} {R : Room} {s : State} {m : MethodId} {args : Array Value} {below : List Frame} {meth : Method} {c : Code} {H : Heap} {locs : List Loc} {cells slots : Nat} {Q : State → Prop}
variable {pc : Nat} {ls : Array Slot} {rest st0 : List Value} {a : Array Value} {A : Nat → Prop} {H0 : Heap} {mc ms : Nat}
variable {D : va_G} {cl : List vw_C} {ws wc wr : va_W} {tys : List (ClassId × FieldType)}
theorem pq_heap {g : JFrame} (h : H = s.heap) (k : W p l e R s m args below meth c H locs cells slots Q g) : W p l e R s m args below meth c s.heap locs cells slots Q g := h ▸ k
/-- a new array of one of the kinds that tys knows -/
theorem pq_newa {cc : ByteArray} (hexec : p.tables.exec = Jvm.exec) (hb : c.code = cc) {atype : ArrayType} (harr : (Cond.arrayClass (newarray.typeOf atype)).before args s = true) {ty : FieldType} (hty : newarray.typeOf atype = ty) (hK : va_K D cl tys s) (hP : va_P D cl ws H) (hD : va_D A ws) (hS : va_S A H0 H locs) (hA : ∀ q, H0.size ≤ q → A q) (t0 : Nat) {cy : ClassId} (ht : tys[t0]? = some (cy, ty))
    {n : Int32} {N' : Nat} {a0 : vp_A} (ha : ∀ cA : ClassId, vp_cell cA a0 = arrV cA N' (fun _ => defaultValue ty)) (hn : ¬ n < 0) (hN : n.toNatClampNeg = N') (hbytes : N' * componentBytes ty ≤ 536870912) (hcells : cells + 1 ≤ R.cells) (hslots : slots + N' ≤ R.slots) (hdg : decode cc pc = .ok (.newarray atype, 2))
    (kk : ∀ (q : Nat) (H1 : Heap), va_P D cl (ws ++ [(q, .inl (cy, a0))]) H1 → va_D A (ws ++ [(q, .inl (cy, a0))]) → va_S A H0 H1 locs → W p l e R s m args below meth c H1 locs (cells + 1) (slots + N') Q (F0 m (pc + 2) ls (.ref q :: rest))) : W p l e R s m args below meth c H locs cells slots Q (F0 m pc ls (.int n :: rest)) := by
  refine va_newa hexec hb harr hty hK hP hD hS hA ha hn hN hbytes hcells hslots hdg (fun q cA H1 hK1 hP1 hD1 hS1 => ?_)
  have e1 := (hK.2 t0 _ ht).2
  have e2 := (hK1.2 tys.length (cA, ty) (by simp)).2
  have hcA : cA = cy := by
    subst hty
    cases atype <;> exact Option.some.inj (e2.symm.trans e1)
  subst hcA
  exact kk q H1 hP1 hD1 hS1
/-- a new array that goes straight into a final field, and of which no more is kept than its address -/
theorem pq_np {cc : ByteArray} (hexec : p.tables.exec = Jvm.exec) (hb : c.code = cc) {atype : ArrayType} (harr : (Cond.arrayClass (newarray.typeOf atype)).before args s = true) {ty : FieldType} (hty : newarray.typeOf atype = ty) {own ref C : String} {T : u_T} {N ci index a : Nat} {Ts : List Cond} (hts : ∀ w ∈ Ts, w.before args s = true) (hin : ∀ w ∈ u_ws C T N, w ∈ Ts) (ty0 : Nat → FieldType) (hty0 : ∀ k, k < N → parseFieldDescriptor (T k).2.2.1 = some (ty0 k)) (hnm : ∀ a, a < N → ∀ b, b < N → a ≠ b → (T a).2.1 ≠ (T b).2.1) (hown : s.vm.findClass own = some m.cls) (hK : va_K D cl tys s) (hP : va_P D cl ws H) (hD : va_D A ws) (hS : va_S A H0 H locs) (hA : ∀ q, H0.size ≤ q → A q) (t0 : Nat) {cy : ClassId} (ht : tys[t0]? = some (cy, ty))
    {n : Int32} {N' : Nat} {a0 : vp_A} (ha : ∀ cA : ClassId, vp_cell cA a0 = arrV cA N' (fun _ => defaultValue ty)) (hn : ¬ n < 0) (hN : n.toNatClampNeg = N') (hbytes : N' * componentBytes ty ≤ 536870912) (hcells : cells + 1 ≤ R.cells) (hslots : slots + N' ≤ R.slots) (hdg : decode cc pc = .ok (.newarray atype, 2))
    (q0 : Nat) {fs : List Value} (he : ws[q0]? = some (a, .inr (ci, fs))) (hc : cl[ci]? = some (C, T, N)) (k : Nat) (hk : k < N) (hlink : (Cond.fieldLink own index ref (T k).2.1 (T k).2.2.1).before args s = true) (hsame : ∀ x, s.fieldFound? (T k).1 (T k).2.1 (T k).2.2.1 = some x → s.fieldFound? ref (T k).2.1 (T k).2.2.1 = some x) (hfin : (T k).2.2.2 = true) (hin2 : meth.name = "<init>") (hdecl : (T k).1 = own) {fty : FieldType} (hd : parseFieldDescriptor (T k).2.2.1 = some fty) (hn2 : ∀ q : Nat, narrow fty (.ref q) = .ref q) (hfit : ∀ q : Nat, fits fty (.ref q) = true) (hl : k < fs.length) (hdg2 : decode cc (pc + 2) = .ok (.putfield index, 3))
    (kk : ∀ (q : Nat) (H1 : Heap) (locs1 : List Loc), va_P D cl (ws.set q0 (a, .inr (ci, fs.set k (.ref q)))) H1 → va_D A (ws.set q0 (a, .inr (ci, fs.set k (.ref q)))) → va_S A H0 H1 locs1 → W p l e R s m args below meth c H1 locs1 (cells + 1) (slots + N') Q (F0 m (pc + 2 + 3) ls rest)) : W p l e R s m args below meth c H locs cells slots Q (F0 m pc ls (.int n :: .ref a :: rest)) := by
  refine pq_newa hexec hb harr hty hK hP hD hS hA t0 ht ha hn hN hbytes hcells hslots hdg (fun q H1 hP1 hD1 hS1 => ?_)
  have hlt : q0 < ws.length := (List.getElem?_eq_some_iff.mp he).1
  have he1 : (ws ++ [(q, Sum.inl (cy, a0))] : va_W)[q0]? = some (a, .inr (ci, fs)) := by rw [List.getElem?_append_left hlt]; exact he
  refine va_putF hexec hb hts hin ty0 hty0 hnm hown hK hP1 hD1 hS1 q0 he1 hc k hk hlink hsame hfin hin2 hdecl hd (hn2 q) (hfit q) hl hdg2 (fun H2 locs2 hP2 hD2 hS2 => ?_)
  have hset : ((ws ++ [(q, Sum.inl (cy, a0))] : va_W).set q0 (a, Sum.inr (ci, fs.set k (.ref q)))) = (ws.set q0 (a, Sum.inr (ci, fs.set k (.ref q))) ++ [(q, Sum.inl (cy, a0))] : va_W) := List.set_append_left _ _ hlt
  rw [hset] at hP2 hD2
  have up : ∀ (i : Nat) (x : Nat × va_E), (ws.set q0 (a, .inr (ci, fs.set k (.ref q))))[i]? = some x → (ws.set q0 (a, .inr (ci, fs.set k (.ref q))) ++ [(q, Sum.inl (cy, a0))] : va_W)[i]? = some x := fun i x h => by
    rw [List.getElem?_append_left (List.getElem?_eq_some_iff.mp h).1]; exact h
  exact kk q H2 locs2 (fun i x h => hP2 i x (up i x h)) ⟨fun i j x y hi hj hxy => hD2.1 i j x y (up i x hi) (up j y hj) hxy, fun i x h => hD2.2 i x (up i x h)⟩ hS2
/-- behind a call that answers an int: the caller's other cells beside what came back -/
theorem pq_ci {post : Int32 → SQ → Prop} {W1 : SQ → va_W} (hr : va_Run p l e R s m args below meth c H locs cells slots mc ms (F0 m pc ls st0) rest (va_Qi post (fun u => pq_B D cl (W1 u) (va_A wc H.size)) (va_A wc H.size) a) (va_A wc H.size)) (hP : va_P D cl ws H) (hD : va_D A ws) (hS : va_S A H0 H locs) (hA : ∀ q, H0.size ≤ q → A q) (isC isR : List Nat) (hC : isC.map (fun i => ws[i]?) = wc.map some) (hR : isR.map (fun i => ws[i]?) = wr.map some) (hn : va_nd isR = true) (hdis : ∀ i ∈ isR, i ∉ isC)
    (kk : ∀ (r : Int32) (u : SQ) (H1 : Heap) (locs1 : List Loc), post r u → va_P D cl (wr ++ W1 u) H1 → va_D A (wr ++ W1 u) → va_S A H0 H1 locs1 → W p l e R s m args below meth c H1 locs1 (cells + mc) (slots + ms) Q (F0 m (pc + 3) ls (.int r :: rest))) : W p l e R s m args below meth c H locs cells slots Q (F0 m pc ls st0) := by
  have hFc := va_free (wc := wc) hD hS hA isC hC
  refine va_calli hr hS (fun q _ h => hFc q h) hFc (fun r u t H1 locs1 ht hvm hw hB hz1 hk1 hS1 => ?_)
  obtain ⟨hP1, hD1⟩ := hB
  rw [ht] at hP1
  obtain ⟨hP2, hD2⟩ := va_join (wr := wr) (w1 := W1 u) hP hD isC isR hC hR hn hdis hk1 hFc hP1 hD1
  exact kk r u H1 locs1 hw hP2 hD2 hS1
/-- the same, of a call that answers nothing -/
theorem pq_cv {post : SQ → Prop} {W1 : SQ → va_W} (hr : va_Run p l e R s m args below meth c H locs cells slots mc ms (F0 m pc ls st0) rest (va_Qv post (fun u => pq_B D cl (W1 u) (va_A wc H.size)) (va_A wc H.size) a) (va_A wc H.size)) (hP : va_P D cl ws H) (hD : va_D A ws) (hS : va_S A H0 H locs) (hA : ∀ q, H0.size ≤ q → A q) (isC isR : List Nat) (hC : isC.map (fun i => ws[i]?) = wc.map some) (hR : isR.map (fun i => ws[i]?) = wr.map some) (hn : va_nd isR = true) (hdis : ∀ i ∈ isR, i ∉ isC)
    (kk : ∀ (u : SQ) (H1 : Heap) (locs1 : List Loc), post u → va_P D cl (wr ++ W1 u) H1 → va_D A (wr ++ W1 u) → va_S A H0 H1 locs1 → W p l e R s m args below meth c H1 locs1 (cells + mc) (slots + ms) Q (F0 m (pc + 3) ls rest)) : W p l e R s m args below meth c H locs cells slots Q (F0 m pc ls st0) := by
  have hFc := va_free (wc := wc) hD hS hA isC hC
  refine va_callv hr hS (fun q _ h => hFc q h) hFc (fun u t H1 locs1 ht hvm hw hB hz1 hk1 hS1 => ?_)
  obtain ⟨hP1, hD1⟩ := hB
  rw [ht] at hP1
  obtain ⟨hP2, hD2⟩ := va_join (wr := wr) (w1 := W1 u) hP hD isC isR hC hR hn hdis hk1 hFc hP1 hD1
  exact kk u H1 locs1 hw hP2 hD2 hS1
end PQ
/-! A String constant of 83 bytes, and two statics of the JDK, all outside of what a method may change. -/
def sq_F (aK aV : Nat) (f : Nat → Int32) (sv : Value) (A : Nat → Prop) (U : State) (H : Heap) : Prop := va_O "java/lang/String" aK A U H ∧ va_OF "java/lang/String" "coder" "B" (.int 0) aK A U H ∧ va_OF "java/lang/String" "value" "[B" (.ref aV) aK A U H ∧ va_T .byte aV 83 (fun j => .int (f j)) A U H ∧ va_Z "java/lang/String" "COMPACT_STRINGS" "Z" (.int 1) A U H ∧ va_Z "jdk/internal/util/Preconditions" "SIOOBE_FORMATTER" "Ljava/util/function/BiFunction;" sv A U H
theorem sq_F.moved {aK aV : Nat} {f : Nat → Int32} {sv : Value} {A : Nat → Prop} {u U : State} {H : Heap} (hvm : u.vm.Alike U.vm) (h : sq_F aK aV f sv A u H) : sq_F aK aV f sv A U H := ⟨va_O.moved hvm h.1, va_OF.moved hvm h.2.1, va_OF.moved hvm h.2.2.1, va_T.moved hvm h.2.2.2.1, va_Z.moved hvm h.2.2.2.2.1, va_Z.moved hvm h.2.2.2.2.2⟩
theorem sq_F.kept {aK aV : Nat} {f : Nat → Int32} {sv : Value} {A : Nat → Prop} {U : State} {H H1 : Heap} (h : sq_F aK aV f sv A U H) (hq : ∀ a : Nat, a < H.size → ¬ A a → H1[a]? = H[a]?) : sq_F aK aV f sv A U H1 := ⟨h.1.kept hq, h.2.1.kept hq, h.2.2.1.kept hq, h.2.2.2.1.kept hq, h.2.2.2.2.1.kept hq, h.2.2.2.2.2.kept hq⟩
theorem sq_F.narrow {aK aV : Nat} {f : Nat → Int32} {sv : Value} {A B : Nat → Prop} {U : State} {H : Heap} (h : sq_F aK aV f sv A U H) (hAB : ∀ q, B q → A q) : sq_F aK aV f sv B U H := ⟨h.1.narrow hAB, h.2.1.narrow hAB, h.2.2.1.narrow hAB, h.2.2.2.1.narrow hAB, h.2.2.2.2.1.narrow hAB, h.2.2.2.2.2.narrow hAB⟩
def sq_W (aK aV : Nat) (f : Nat → Int32) (sv : Value) (sz : Nat) : State → Prop := fun U => U.heap.size = sz ∧ sq_F aK aV f sv (va_A [] sz) U U.heap
theorem sq_blind {av : List Value} {aK aV : Nat} {f : Nat → Int32} {sv : Value} {sz : Nat} : FrameBlind (va_Pc av (sq_W aK aV f sv sz)) := by
  intro a U g mk q
  obtain ⟨q0, q1, qF⟩ := q
  exact ⟨q0, q1, sq_F.moved (u := U) (U := U.calling g mk a) (Vm.Alike.refl U.vm) qF⟩
theorem sq_pre {s : State} {H : Heap} {locs : List Loc} {av : List Value} {aK aV : Nat} {f : Nat → Int32} {sv : Value} {A : Nat → Prop} (hF : sq_F aK aV f sv A s s.heap) (hS : va_S A s.heap H locs) (hA : ∀ q : Nat, s.heap.size ≤ q → A q) : ∀ U : State, U.heap = H → s.WarmedH U.vm → va_Pc av (sq_W aK aV f sv H.size) av.toArray U := by
  intro U hU hW
  refine ⟨rfl, by rw [hU], ?_⟩
  rw [hU]
  refine (sq_F.moved hW.alike (hF.kept hS.2.1)).narrow (fun q h => ?_)
  rcases h with ⟨k, e, h⟩ | h
  · simp at h
  · exact hA q (Nat.le_trans hS.1 h)
theorem sq_recv {s : State} {H : Heap} {locs : List Loc} {aK aV : Nat} {f : Nat → Int32} {sv : Value} {A : Nat → Prop} (hF : sq_F aK aV f sv A s s.heap) (hS : va_S A s.heap H locs) : ∃ cell : Cell, H[aK]? = some cell ∧ cell.vm.isStatics = false ∧ s.vm.findClass "java/lang/String" = some cell.cls := by
  obtain ⟨cell, h1, h2, h3, -⟩ := hF.1.kept hS.2.1
  exact ⟨cell, h1, h2, h3⟩
theorem pq_P0 {D : va_G} {cl : List vw_C} {H : Heap} : va_P D cl [] H := fun k q h => by simp at h
theorem pq_D0 {A : Nat → Prop} : va_D A [] := ⟨fun i j p q h => by simp at h, fun k q h => by simp at h⟩
/-- a start with a String constant -/
def pq_WS (D : va_G) (cl : List vw_C) (tys : List (ClassId × FieldType)) (ws : va_W) (sz : Nat) (own : String) (ix : Nat) (aK aV : Nat) (f : Nat → Int32) (sv : Value) : State → Prop := fun U => pq_W D cl tys ws sz U ∧ vk_R own ix "def fn rec let in if then else close run open fst snd true false int bool code box " aK U ∧ sq_F aK aV f sv (va_A ws sz) U U.heap
theorem pq_blindS {av : List Value} {D : va_G} {cl : List vw_C} {tys : List (ClassId × FieldType)} {ws : va_W} {sz : Nat} {own : String} {ix aK aV : Nat} {f : Nat → Int32} {sv : Value} : FrameBlind (va_Pc av (pq_WS D cl tys ws sz own ix aK aV f sv)) := by
  intro a U g mk q
  obtain ⟨q0, qW, qR, qF⟩ := q
  exact ⟨q0, (pq_blind (av := av) a U g mk ⟨q0, qW⟩).2, vk_R.same (u := U) rfl qR, sq_F.moved (u := U) (U := U.calling g mk a) (Vm.Alike.refl U.vm) qF⟩
theorem pq_preS {s : State} {H : Heap} {locs : List Loc} {av : List Value} {D : va_G} {cl : List vw_C} {tys : List (ClassId × FieldType)} {ws wc : va_W} {A : Nat → Prop} {own : String} {ix aK aV : Nat} {f : Nat → Int32} {sv : Value} (hK : va_K D cl tys s) (hP : va_P D cl ws H) (hD : va_D A ws) (hS : va_S A s.heap H locs) (hA : ∀ q : Nat, s.heap.size ≤ q → A q) (hR : vk_R own ix "def fn rec let in if then else close run open fst snd true false int bool code box " aK s) (hF : sq_F aK aV f sv A s s.heap) (isC : List Nat) (hC : isC.map (fun i => ws[i]?) = wc.map some) (hn : va_nd isC = true) : ∀ U : State, U.heap = H → s.WarmedH U.vm → va_Pc av (pq_WS D cl tys wc H.size own ix aK aV f sv) av.toArray U := by
  intro U hU hW
  obtain ⟨h1, h2⟩ := pq_pre (av := av) hK hP hD isC hC hn U hU hW
  refine ⟨h1, h2, vk_R.warm hW hR, ?_⟩
  rw [hU]
  exact (sq_F.moved hW.alike (hF.kept hS.2.1)).narrow (va_free (wc := wc) hD hS hA isC hC)
set_option maxRecDepth 20000 in
theorem guX0 : (wsX00).all goodWord = true := by decide +kernel
set_option maxRecDepth 20000 in
theorem guX1 : (wsX10).all goodWord = true := by decide +kernel
set_option maxRecDepth 20000 in
theorem guX2 : (wsX20).all goodWord = true := by decide +kernel
set_option maxRecDepth 20000 in
theorem guX3 : (wsX30).all goodWord = true := by decide +kernel
set_option maxRecDepth 20000 in
theorem guX4 : (wsX40).all goodWord = true := by decide +kernel
set_option maxRecDepth 20000 in
theorem guX5 : (wsX50).all goodWord = true := by decide +kernel
set_option maxRecDepth 20000 in
theorem guX6 : (wsX60).all goodWord = true := by decide +kernel
set_option maxRecDepth 20000 in
theorem guX7 : (wsX70).all goodWord = true := by decide +kernel
set_option maxRecDepth 20000 in
theorem guX8 : (wsX80).all goodWord = true := by decide +kernel
set_option maxRecDepth 20000 in
theorem guX9 : (wsX90).all goodWord = true := by decide +kernel
set_option maxRecDepth 20000 in
theorem guX10 : (wsX100).all goodWord = true := by decide +kernel
set_option maxRecDepth 20000 in
theorem guX11 : (wsX110).all goodWord = true := by decide +kernel
