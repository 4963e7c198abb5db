/-! THE GROUND: contracts over a world, with one set of words, one premise and one end for all methods -/
def gk_tw : List Cond := lw_tbl.filter goodWord
theorem gk_in {w : Cond} (h : w ∈ lw_tbl) (g : goodWord w = true) : w ∈ gk_tw := List.mem_filter.mpr ⟨h, g⟩
theorem gk_goodIn {L : List Cond} (h : ∀ w ∈ L, w ∈ gk_tw) : GoodIn gk_tw L := fun w hw => ⟨h w hw, good_of_word (List.mem_filter.mp (h w hw)).2⟩
/-- the classes' numbers and slots; the array classes (0 int, 1 byte, 2 long, 3 boolean); ArrayList's empty array -/
abbrev gk_E : Type := va_G × (Nat → ClassId) × Nat
abbrev gk_tys (E : gk_E) : List (ClassId × FieldType) := [(E.2.1 0, .int), (E.2.1 1, .byte), (E.2.1 2, .long), (E.2.1 3, .boolean)]
def gk_K (E : gk_E) (s : State) : Prop := va_K E.1 gk_cl (gk_tys E) s ∧ ∀ w ∈ gk_nw, va_Nw w s
def gk_Z (E : gk_E) (A : Nat → Prop) (s : State) : Prop := va_Z "java/util/ArrayList" "DEFAULTCAPACITY_EMPTY_ELEMENTDATA" "[Ljava/lang/Object;" (.ref E.2.2) A s s.heap ∧ va_Z "java/lang/String" "COMPACT_STRINGS" "Z" (.int 1) A s s.heap
def gk_isN : Cond → Bool
  | .fieldLinkNest _ _ _ _ _ _ => true
  | .methodLinkNest _ _ _ _ => true
  | _ => false
theorem gk_nw_nest : ∀ w ∈ gk_nw, gk_isN w = true := by decide +kernel
theorem gk_nw_in : ∀ w ∈ gk_nw, w ∈ lw_tbl := by decide +kernel
theorem gk_K.warm {E : gk_E} {s U : State} (hW : s.WarmedH U.vm) (h : gk_K E s) : gk_K E U := by
  refine ⟨va_K.moved hW.alike h.1, fun w hw => ?_⟩
  have hn := gk_nw_nest w hw
  have h := h.2 w hw
  cases w with
  | fieldLinkNest a i b n d hh => exact va_Nw.warmF hW h
  | methodLinkNest a i y hh => exact va_Nw.warmM hW h
  | _ => exact Bool.noConfusion (show false = true from hn)
theorem gk_z {C n d : String} {v : Value} {A A1 : Nat → Prop} {s U : State} {H : Heap} {locs : List Loc} (h : va_Z C n d v A s s.heap) (hS : va_S A s.heap H locs) (hvm : s.vm.Alike U.vm) (hU : U.heap = H) (hF : ∀ q, A1 q → A q) : va_Z C n d v A1 U U.heap := by
  have h2 := va_Z.kept (va_Z.moved hvm h) (H1 := H) (fun a ha hA => hS.2.1 a ha hA)
  obtain ⟨cf, kf, fi, f, a, cell, g1, g2, g3, g4, g5, g6, g7, g8⟩ := h2
  rw [hU]
  exact ⟨cf, kf, fi, f, a, cell, g1, g2, g3, g4, g5, g6, g7, fun q => g8 (hF a q)⟩
theorem gk_Z.to {E : gk_E} {A A1 : Nat → Prop} {s U : State} {H : Heap} {locs : List Loc} (h : gk_Z E A s) (hS : va_S A s.heap H locs) (hvm : s.vm.Alike U.vm) (hU : U.heap = H) (hF : ∀ q, A1 q → A q) : gk_Z E A1 U := ⟨gk_z h.1 hS hvm hU hF, gk_z h.2 hS hvm hU hF⟩
def gk_Pc (E : gk_E) (av : List Value) (ws : va_W) (sz : Nat) : Array Value → State → Prop := fun v U => v = av.toArray ∧ U.heap.size = sz ∧ va_P E.1 gk_cl ws U.heap ∧ gk_K E U ∧ gk_Z E (va_A ws sz) U ∧ va_D (fun _ => True) ws
def gk_Q (E : gk_E) (A : Nat → Prop) (B : Option Value → va_W → Prop) : Array Value → State → Outcome → State → Prop := fun _ st oc t => (∃ (r : Option Value) (w : va_W), oc = .returned r ∧ B r w ∧ va_P E.1 gk_cl w t.heap ∧ va_D A w) ∧ va_F A st t
def gk_rm (d mc ms : Nat) : Room := { frames := d, cells := mc, slots := ms, locals := 80 * d }
theorem gk_Pc.blind {E : gk_E} {av : List Value} {ws : va_W} {sz : Nat} : FrameBlind (gk_Pc E av ws sz) := by
  intro a U g mk h
  obtain ⟨h1, h2, h3, h4, h5, h6⟩ := h
  exact ⟨h1, h2, h3, gk_K.warm (U := U.calling g mk a) (State.WarmedH.refl U) h4, gk_Z.to (U := U.calling g mk a) h5 va_S.rf (Vm.Alike.refl U.vm) rfl (fun _ q => q), h6⟩
def gk_X (E : gk_E) (p : Program) (s : State) (m : MethodId) (args : Array Value) (meth : Method) (c : Code) (y : MethodName) (cc : ByteArray) (maxL : Nat) (ret : Option FieldType) (A : Nat → Prop) : Prop :=
  p.tables.exec = Jvm.exec ∧ c.code = cc ∧ c.maxLocals = maxL ∧ s.vm.findClass y.cls = some m.cls ∧ (∀ w ∈ gk_tw, w.before args s = true) ∧ gk_K E s ∧ gk_Z E A s ∧ (∀ q, s.heap.size ≤ q → A q) ∧ meth.sig.returnType = ret ∧ meth.locks = false ∧ (y.name = "<init>" → meth.name = "<init>")
theorem gk_met {l : Launch} {E : gk_E} {y : MethodName} {cc : ByteArray} {maxL : Nat} {ret : Option FieldType} {d mc ms sz : Nat} {av : List Value} {ws : va_W} {B : Option Value → va_W → Prop} (hy : plainName y.cls = true) (hlen : (lg_sl av).length ≤ maxL)
    (k : ∀ (p : Program) (e : Env) (s : State) (m : MethodId) (below : List Frame) (meth : Method) (c : Code) (A : Nat → Prop) (ls : Array Slot), gk_X E p s m av.toArray meth c y cc maxL ret A → lv_has ls maxL (lv_args 0 av) → va_P E.1 gk_cl ws s.heap → va_D A ws → va_S A s.heap s.heap [] →
      W p l e (gk_rm d mc ms) s m av.toArray below meth c s.heap [] 0 0 (MQ below (gk_Q E A B) av.toArray s mc ms A) (F0 m 0 ls [])) :
    Met l y (Cond.code y cc maxL ret :: gk_tw) (gk_rm d mc ms) (gk_Pc E av ws sz) (gk_Q E (va_A ws sz) B) mc ms (va_A ws sz) := by
  refine Met.ofW (cc := cc) (maxL := maxL) (ret := ret) hy rfl ?_
  intro p e s m args below meth c s₁ X hml hv
  obtain ⟨rfl, hsz, hP, hK, hZ, hD0⟩ := hv
  have hts := atoms_spec (ws := Cond.code y cc maxL ret :: gk_tw) X.pre
  have hown : s.vm.findClass y.cls = some m.cls := findClass_of_methodNamed X.named
  subst hsz
  have hD := hD0.self (sz := s.heap.size)
  rw [lg_entry_eq]
  exact k p e s m below meth c (va_A ws s.heap.size) _ ⟨X.exec, X.bytes, hml, hown, fun w hw => hts w (List.mem_cons_of_mem _ hw), hK, hZ, fun q h => Or.inr h, X.returns, X.notSynchronized, fun h => (name_of_methodNamed X.named X.method).1.trans h⟩ (lv_entry av hlen) hP hD va_S.rf
section GKC
variable {p : Program} {l : Launch} {e : Env} {R : Room} {s : State} {m : MethodId} {args : Array Value} {below : List Frame} {meth : Method} {c : Code} {H : Heap} {locs : List Loc} {cells slots : Nat} {Q : State → Prop}
variable {E : gk_E} {A : Nat → Prop} {B : Option Value → va_W → Prop} {pc mc ms d2 nL maxL2 idx : Nat} {ls : Array Slot} {st0 rest As : List Value} {a : Array Value} {ws wc wr : va_W} {y y2 : MethodName} {cc cc2 : ByteArray} {ret ret2 : Option FieldType} {b : Nat}
/-- behind any call -/
theorem gk_back (hr : va_Run p l e R s m args below meth c H locs cells slots mc ms (F0 m pc ls st0) rest (gk_Q E (va_A wc H.size) B a) (va_A wc H.size)) (hP : va_P E.1 gk_cl ws H) (hD : va_D A ws) (hS : va_S A s.heap H locs) (hA : ∀ q, s.heap.size ≤ q → A q) (isC isR : List Nat) (hC : isC.map (fun i => ws[i]?) = wc.map some) (hR : isR.map (fun i => ws[i]?) = wr.map some) (hn : va_nd isR = true) (hdis : ∀ i ∈ isR, i ∉ isC)
    (kk : ∀ (r : Option Value) (w : va_W) (H1 : Heap) (locs1 : List Loc), B r w → va_P E.1 gk_cl (wr ++ w) H1 → va_D A (wr ++ w) → va_S A s.heap H1 locs1 → W p l e R s m args below meth c H1 locs1 (cells + mc) (slots + ms) Q (F0 m (pc + 3) ls (r.toList ++ rest))) : W p l e R s m args below meth c H locs cells slots Q (F0 m pc ls st0) := by
  have hF := va_free (wc := wc) hD hS hA isC hC
  intro T hT X
  obtain ⟨v, st₀, t, T', L, h0, X', hL, e1, e2, ⟨⟨r, w, hv, hb, hp1, hd1⟩, hz, hk⟩, st⟩ := hr T hT X
  cases hv
  rw [h0] at hz hk
  rw [← e1] at hp1 hz
  have hk' : ∀ q : Nat, q < H.size → ¬ va_A wc H.size q → T'.heap[q]? = H[q]? := fun q h1 h2 => by rw [e1]; exact hk q h1 h2
  obtain ⟨hP1, hD1⟩ := va_join (wr := wr) (w1 := w) hP hD isC isR hC hR hn hdis hk' hF hp1 hd1
  obtain ⟨t2, a1, b1⟩ := kk v w T'.heap (locs ++ L) hb hP1 hD1
    ⟨Nat.le_trans hS.1 hz, fun q h1 h2 => by rw [hk' q (Nat.lt_of_lt_of_le h1 hS.1) (fun z => h2 (hF q z))]; exact hS.2.1 q h1 h2, fun q hq => by
      rcases List.mem_append.mp hq with h | h
      · exact hS.2.2 q h
      · exact hF _ (hL q h)⟩ T' rfl X'
  exact ⟨t2, st t2 a1, b1⟩
theorem gk_pre {av : List Value} (hK : gk_K E s) (hZ : gk_Z E A s) (hP : va_P E.1 gk_cl ws H) (hD : va_D A ws) (hS : va_S A s.heap H locs) (hA : ∀ q, s.heap.size ≤ q → A q) (isC : List Nat) (hn : va_nd isC = true) (hC : isC.map (fun i => ws[i]?) = wc.map some) : ∀ U : State, U.heap = H → s.WarmedH U.vm → gk_Pc E av wc H.size av.toArray U := by
  intro U hU hW
  have hF := va_free (wc := wc) hD hS hA isC hC
  refine ⟨rfl, by rw [hU], ?_, gk_K.warm hW hK, gk_Z.to hZ hS hW.alike hU hF, (hD.sub isC hn hC).weaken (fun _ _ _ _ => trivial)⟩
  rw [hU]
  intro k q hk
  have h1 : (isC.map (fun i => ws[i]?))[k]? = some (some q) := by rw [hC, List.getElem?_map, hk]; rfl
  rw [List.getElem?_map] at h1
  cases hi : isC[k]? with
  | none => rw [hi] at h1; cases h1
  | some i => rw [hi] at h1; exact hP i q (Option.some.inj h1)
abbrev gk_M (l : Launch) (E : gk_E) (y2 : MethodName) (cc2 : ByteArray) (maxL2 : Nat) (ret2 : Option FieldType) (d2 mc ms : Nat) (av : List Value) (wc : va_W) (sz : Nat) (B : Option Value → va_W → Prop) : Prop := Met l y2 (Cond.code y2 cc2 maxL2 ret2 :: gk_tw) (gk_rm d2 mc ms) (gk_Pc E av wc sz) (gk_Q E (va_A wc sz) B) mc ms (va_A wc sz)
theorem gk_hws (hc : Cond.code y2 cc2 maxL2 ret2 ∈ gk_tw) : ∀ w ∈ (Cond.code y2 cc2 maxL2 ret2 :: gk_tw), w ∈ gk_tw := fun w hw => by
  rcases List.mem_cons.mp hw with h | h
  · rw [h]; exact hc
  · exact h
/-- how a call is linked: through the tables' words, or through those of a nest -/
def gk_lk (own : String) (idx : Nat) (y2 : MethodName) : Prop := Cond.methodLink own idx y2 ∈ gk_tw ∨ Cond.methodLinkNest own idx y2 "JobText" ∈ gk_nw
/-- what a call asks of the method that is called, but for the link -/
def gk_ok (y2 : MethodName) (cc2 : ByteArray) (maxL2 : Nat) (ret2 : Option FieldType) (n : Nat) : Prop := (Cond.code y2 cc2 maxL2 ret2 ∈ gk_tw ∧ Cond.initialized y2.cls ∈ gk_tw) ∧ y2.cls ≠ "java/lang/invoke/MethodHandle" ∧ y2.cls ≠ "java/lang/invoke/VarHandle" ∧ (parseMethodDescriptor y2.desc).map (fun d => d.parameters.length) = some n
theorem gk_runI {n : Nat} (X : gk_X E p s m args meth c y cc nL ret A) (hM : gk_M l E y2 cc2 maxL2 none d2 mc ms (.ref b :: As) wc H.size B) (hok : gk_ok y2 cc2 maxL2 none n) (hl : gk_lk y.cls idx y2) (hin : Cond.instanceMethod y2 ∈ gk_tw) (hnm : y2.name = "<init>") (hn : As.length = n)
    (hP : va_P E.1 gk_cl ws H) (hD : va_D A ws) (hS : va_S A s.heap H locs) (isC : List Nat) (hnd : va_nd isC = true) (hC : isC.map (fun i => ws[i]?) = wc.map some) (hls : ls.size = nL) (hst : st0 = As.reverse ++ .ref b :: rest) (h8 : (rest.map fun v => v.category).sum ≤ 8) (hdg : decode cc pc = .ok (.invokespecial idx, 3)) (hf : cells + mc ≤ R.cells ∧ slots + ms ≤ R.slots) (hrm : d2 + 1 ≤ R.frames ∧ 8 + (maxL2 + 11) + 80 * d2 ≤ R.locals) :
    va_Run p l e R s m args below meth c H locs cells slots mc ms (F0 m pc ls st0) rest (gk_Q E (va_A wc H.size) B (Value.ref b :: As).toArray) (va_A wc H.size) := by
  obtain ⟨hx, hb, hml, hown, hts, hK, hZ, hA, -⟩ := X
  obtain ⟨⟨k1, k2⟩, k3⟩ := hok
  rcases hl with hl | hl
  · exact va_runI (As := As) (rest := rest) ⟨hx, hb, hml, hown, hts⟩ hM ⟨callB_of n hts (gk_goodIn (gk_hws k1)) rfl rfl rfl (hts _ k2) (hts _ hl) k3 hrm, hnm, hts _ hin⟩ ⟨gk_Pc.blind, gk_pre hK hZ hP hD hS hA isC hnd hC⟩ rfl hn hls hst (lv_room h8) hdg hf
  · exact va_runIN (As := As) (rest := rest) ⟨hx, hb, hml, hown, hts⟩ hM ⟨va_cnB n hts (gk_goodIn (gk_hws k1)) rfl rfl rfl (hK.2 _ hl) (hts _ k2) k3 hrm, hnm, hts _ hin⟩ ⟨gk_Pc.blind, gk_pre hK hZ hP hD hS hA isC hnd hC⟩ rfl hn hls hst (lv_room h8) hdg hf
theorem gk_runS {n : Nat} (X : gk_X E p s m args meth c y cc nL ret A) (hM : gk_M l E y2 cc2 maxL2 ret2 d2 mc ms As wc H.size B) (hok : gk_ok y2 cc2 maxL2 ret2 n) (hl : gk_lk y.cls idx y2) (hin : Cond.static y2 ∈ gk_tw) (hn : As.length = n)
    (hP : va_P E.1 gk_cl ws H) (hD : va_D A ws) (hS : va_S A s.heap H locs) (isC : List Nat) (hnd : va_nd isC = true) (hC : isC.map (fun i => ws[i]?) = wc.map some) (hls : ls.size = nL) (hst : st0 = As.reverse ++ rest) (h8 : (rest.map fun v => v.category).sum ≤ 8) (hdg : decode cc pc = .ok (.invokestatic idx, 3)) (hf : cells + mc ≤ R.cells ∧ slots + ms ≤ R.slots) (hrm : d2 + 1 ≤ R.frames ∧ 8 + (maxL2 + 11) + 80 * d2 ≤ R.locals) :
    va_Run p l e R s m args below meth c H locs cells slots mc ms (F0 m pc ls st0) rest (gk_Q E (va_A wc H.size) B As.toArray) (va_A wc H.size) := by
  obtain ⟨hx, hb, hml, hown, hts, hK, hZ, hA, -⟩ := X
  obtain ⟨⟨k1, k2⟩, k3⟩ := hok
  rcases hl with hl | hl
  · exact va_runS (As := As) (rest := rest) ⟨hx, hb, hml, hown, hts⟩ hM ⟨callB_of n hts (gk_goodIn (gk_hws k1)) rfl rfl rfl (hts _ k2) (hts _ hl) k3 hrm, hts _ hin⟩ ⟨gk_Pc.blind, gk_pre hK hZ hP hD hS hA isC hnd hC⟩ rfl hn hls hst (lv_room h8) hdg hf
  · exact va_runSN (As := As) (rest := rest) ⟨hx, hb, hml, hown, hts⟩ hM ⟨va_cnB n hts (gk_goodIn (gk_hws k1)) rfl rfl rfl (hK.2 _ hl) (hts _ k2) k3 hrm, hts _ hin, trivial⟩ ⟨gk_Pc.blind, gk_pre hK hZ hP hD hS hA isC hnd hC⟩ rfl hn hls hst (lv_room h8) hdg hf
theorem gk_runV {n ci q0 : Nat} {fs : List Value} {r : vw_C} (X : gk_X E p s m args meth c y cc nL ret A) (hM : gk_M l E y2 cc2 maxL2 ret2 d2 mc ms (.ref b :: As) wc H.size B) (hok : gk_ok y2 cc2 maxL2 ret2 n) (hl : gk_lk y.cls idx y2) (hin : Cond.instanceMethod y2 ∈ gk_tw) (hse : Cond.selects r.1 y2 y2 ∈ gk_tw) (hrc : gk_cl[ci]? = some r) (he : ws[q0]? = some (b, .inr (ci, fs))) (hn : As.length = n)
    (hP : va_P E.1 gk_cl ws H) (hD : va_D A ws) (hS : va_S A s.heap H locs) (isC : List Nat) (hnd : va_nd isC = true) (hC : isC.map (fun i => ws[i]?) = wc.map some) (hls : ls.size = nL) (hst : st0 = As.reverse ++ .ref b :: rest) (h8 : (rest.map fun v => v.category).sum ≤ 8) (hdg : decode cc pc = .ok (.invokevirtual idx, 3)) (hf : cells + mc ≤ R.cells ∧ slots + ms ≤ R.slots) (hrm : d2 + 1 ≤ R.frames ∧ 8 + (maxL2 + 11) + 80 * d2 ≤ R.locals) :
    va_Run p l e R s m args below meth c H locs cells slots mc ms (F0 m pc ls st0) rest (gk_Q E (va_A wc H.size) B (Value.ref b :: As).toArray) (va_A wc H.size) := by
  obtain ⟨hx, hb, hml, hown, hts, hK, hZ, hA, -⟩ := X
  obtain ⟨⟨k1, k2⟩, k3⟩ := hok
  rcases hl with hl | hl
  · exact va_runV (C := r.1) (As := As) (rest := rest) ⟨hx, hb, hml, hown, hts⟩ hM ⟨callB_of n hts (gk_goodIn (gk_hws k1)) rfl rfl rfl (hts _ k2) (hts _ hl) k3 hrm, hts _ hin, hts _ hse⟩ ⟨gk_Pc.blind, va_recv hK.1 hP hrc he, gk_pre hK hZ hP hD hS hA isC hnd hC⟩ rfl hn hls hst (lv_room h8) hdg hf
  · exact va_runVN (C := r.1) (As := As) (rest := rest) ⟨hx, hb, hml, hown, hts⟩ hM ⟨va_cnB n hts (gk_goodIn (gk_hws k1)) rfl rfl rfl (hK.2 _ hl) (hts _ k2) k3 hrm, hts _ hin, hts _ hse⟩ ⟨gk_Pc.blind, va_recv hK.1 hP hrc he, gk_pre hK hZ hP hD hS hA isC hnd hC⟩ rfl hn hls hst (lv_room h8) hdg hf
/-- a method's end -/
theorem gk_q {w : va_W} {r : Option Value} (hP : va_P E.1 gk_cl w H) (hD : va_D A w) (hS : va_S A s.heap H locs) (hB : B r w) : ∀ t : State, t.heap = H → s.WarmedH t.vm → gk_Q E A B args s (.returned r) t := fun t ht _ => ⟨⟨r, w, rfl, hB, by rw [ht]; exact hP, hD⟩, hS.F ht⟩
/-- an array of a known class -/
theorem gk_newa {atype : ArrayType} (X : gk_X E p s m args meth c y cc nL ret A) (harr : Cond.arrayClass (newarray.typeOf atype) ∈ gk_tw) {ty : FieldType} (hty : newarray.typeOf atype = ty) (t0 : Nat) {cA : ClassId} (ht : (gk_tys E)[t0]? = some (cA, ty)) (hP : va_P E.1 gk_cl ws H) (hD : va_D A ws) (hS : va_S A s.heap H locs)
    {n : Int32} {N' : Nat} {a0 : vp_A} (ha : ∀ cA : ClassId, vp_cell cA a0 = arrV cA N' (fun _ => defaultValue ty)) (hn : ¬ n < 0) (hN : n.toNatClampNeg = N') (hbytes : N' * componentBytes ty ≤ 536870912) (hcells : cells + 1 ≤ R.cells) (hslots : slots + N' ≤ R.slots) (hdg : decode cc pc = .ok (.newarray atype, 2))
    (kk : ∀ (q : Nat) (H1 : Heap), va_P E.1 gk_cl (ws ++ [(q, .inl (cA, a0))]) H1 → va_D A (ws ++ [(q, .inl (cA, a0))]) → va_S A s.heap H1 locs →
      W p l e R s m args below meth c H1 locs (cells + 1) (slots + N') Q (F0 m (pc + 2) ls (.ref q :: rest))) : W p l e R s m args below meth c H locs cells slots Q (F0 m pc ls (.int n :: rest)) := by
  obtain ⟨hx, hb, hml, hown, hts, hK, hZ, hA, -⟩ := X
  refine va_newa hx hb (hts _ harr) hty hK.1 hP hD hS hA ha hn hN hbytes hcells hslots hdg (fun q cA' H1 hK1 hP1 hD1 hS1 => ?_)
  have h1 := (hK.1.2 t0 _ ht).2
  have h2 := (hK1.2 4 (cA', ty) rfl).2
  have hc : cA' = cA := by
    subst hty
    cases atype <;> exact Option.some.inj (h2.symm.trans h1)
  subst hc
  exact kk q H1 hP1 hD1 hS1
theorem gk_new {C : String} {T : u_T} {N ci : Nat} (X : gk_X E p s m args meth c y cc nL ret A) (hin : ∀ w ∈ u_ws C T N, w ∈ gk_tw) (ty : Nat → FieldType) (hty : ∀ k, k < N → parseFieldDescriptor (T k).2.2.1 = some (ty k)) (hcl : Cond.classLink y.cls idx C ∈ gk_tw) (hinst : Cond.instantiable C N ∈ gk_tw) (hini : Cond.initialized C ∈ gk_tw)
    (hP : va_P E.1 gk_cl ws H) (hD : va_D A ws) (hS : va_S A s.heap H locs) (hc : gk_cl[ci]? = some (C, T, N)) {fs : List Value} (hfs : ∀ j, j < N → defaultValue (ty j) = vp_V fs j) (hcells : cells + 1 ≤ R.cells) (hslots : slots + N ≤ R.slots) (hdg : decode cc pc = .ok (.new idx, 3))
    (kk : ∀ (q : Nat) (H1 : Heap), va_P E.1 gk_cl (ws ++ [(q, .inr (ci, fs))]) H1 → va_D A (ws ++ [(q, .inr (ci, fs))]) → va_S A s.heap H1 locs →
      W p l e R s m args below meth c H1 locs (cells + 1) (slots + N) Q (F0 m (pc + 3) ls (.ref q :: rest))) : W p l e R s m args below meth c H locs cells slots Q (F0 m pc ls rest) := by
  obtain ⟨hx, hb, hml, hown, hts, hK, hZ, hA, -⟩ := X
  exact va_new hx hb hts hin ty hty hown (hts _ hcl) (hts _ hinst) (hts _ hini) hK.1 hP hD hS hA hc hfs hcells hslots hdg kk
theorem gk_get {C : String} {T : u_T} {N ci : Nat} (X : gk_X E p s m args meth c y cc nL ret A) (hin : ∀ w ∈ u_ws C T N, w ∈ gk_tw) (hP : va_P E.1 gk_cl ws H) (q0 : Nat) {fs : List Value} (he : ws[q0]? = some (b, .inr (ci, fs))) (hc : gk_cl[ci]? = some (C, T, N)) (k : Nat) (hk : k < N) (hlink : Cond.fieldLink y.cls idx (T k).1 (T k).2.1 (T k).2.2.1 ∈ gk_tw) {v : Value} (hv : fs[k]? = some v) (hdg : decode cc pc = .ok (.getfield idx, 3))
    (kk : W p l e R s m args below meth c H locs cells slots Q (F0 m (pc + 3) ls (v :: rest))) : W p l e R s m args below meth c H locs cells slots Q (F0 m pc ls (.ref b :: rest)) := by
  obtain ⟨hx, hb, hml, hown, hts, hK, hZ, hA, -⟩ := X
  exact va_get hx hb hts hin hown hK.1 hP q0 he hc k hk (hts _ hlink) (fun _ h => h) hv hdg kk
theorem gk_put {C : String} {T : u_T} {N ci : Nat} (X : gk_X E p s m args meth c y cc nL ret A) (hin : ∀ w ∈ u_ws C T N, w ∈ gk_tw) (ty0 : Nat → FieldType) (hty : ∀ k, k < N → parseFieldDescriptor (T k).2.2.1 = some (ty0 k)) (hnm : ∀ a, a < N → ∀ b, b < N → a ≠ b → (T a).2.1 ≠ (T b).2.1) (hP : va_P E.1 gk_cl ws H) (hD : va_D A ws) (hS : va_S A s.heap H locs) (q0 : Nat) {fs : List Value} (he : ws[q0]? = some (b, .inr (ci, fs))) (hc : gk_cl[ci]? = some (C, T, N)) (k : Nat) (hk : k < N) (hlink : Cond.fieldLink y.cls idx (T k).1 (T k).2.1 (T k).2.2.1 ∈ gk_tw) (hfin : (T k).2.2.2 = false ∨ ((T k).2.2.2 = true ∧ y.name = "<init>" ∧ (T k).1 = y.cls)) {ty : FieldType} {v : Value} (hd : parseFieldDescriptor (T k).2.2.1 = some ty) (hn : narrow ty v = v) (hfit : fits ty v = true) (hl : k < fs.length) (hdg : decode cc pc = .ok (.putfield idx, 3)) {ws' : va_W} (hw : ws.set q0 (b, .inr (ci, fs.set k v)) = ws')
    (kk : ∀ (H1 : Heap) (locs1 : List Loc), va_P E.1 gk_cl ws' H1 → va_D A ws' → va_S A s.heap H1 locs1 → W p l e R s m args below meth c H1 locs1 cells slots Q (F0 m (pc + 3) ls rest)) : W p l e R s m args below meth c H locs cells slots Q (F0 m pc ls (v :: .ref b :: rest)) := by
  obtain ⟨hx, hb, hml, hown, hts, hK, hZ, hA, hr, hlk, hnn⟩ := X
  subst hw
  rcases hfin with hf | ⟨hf, h1, h2⟩
  · exact va_put hx hb hts hin ty0 hty hnm hown hK.1 hP hD hS q0 he hc k hk (hts _ hlink) (fun _ h => h) hf hd hn hfit hl hdg kk
  · exact va_putF hx hb hts hin ty0 hty hnm hown hK.1 hP hD hS q0 he hc k hk (hts _ hlink) (fun _ h => h) hf (hnn h1) h2 hd hn hfit hl hdg kk
theorem gk_oi (X : gk_X E p s m args meth c y cc nL ret A) (hlink : Cond.methodLink y.cls idx Lib.objectInit ∈ gk_tw) (hinst : Cond.instanceMethod Lib.objectInit ∈ gk_tw) (hcode : Cond.code Lib.objectInit ⟨#[0xb1]⟩ 1 none ∈ gk_tw) (hls : ls.size = nL) (hd : decode cc pc = .ok (.invokespecial idx, 3)) (hf : 1 ≤ R.frames) (h8 : (rest.map fun v => v.category).sum + 12 ≤ R.locals)
    (kk : W p l e R s m args below meth c H locs cells slots Q (F0 m (pc + 3) ls rest)) : W p l e R s m args below meth c H locs cells slots Q (F0 m pc ls (.ref b :: rest)) := by
  obtain ⟨hx, hb, hml, hown, hts, -⟩ := X
  refine W.objInit hx hb hown (hts _ hlink) (hts _ hinst) (hts _ hcode) rfl (by rw [hml]; exact hls) rfl hd hf ?_ kk
  show 2 * 0 + _ + 12 ≤ _
  omega
end GKC
theorem gk_i {x : Int32} {n : Int} (h : x.toInt = n) : x = Int32.ofInt n := by rw [← h]; exact (Int32.ofInt_toInt x).symm
theorem gk_sw6 {x : Int32} (h : ¬ (x.toInt < 0 ∨ 6 < x.toInt)) : x = 0 ∨ x = 1 ∨ x = 2 ∨ x = 3 ∨ x = 4 ∨ x = 5 ∨ x = 6 := by
  rcases (show x.toInt = 0 ∨ x.toInt = 1 ∨ x.toInt = 2 ∨ x.toInt = 3 ∨ x.toInt = 4 ∨ x.toInt = 5 ∨ x.toInt = 6 by omega) with h | h | h | h | h | h | h <;> rw [gk_i h] <;> decide
theorem gk_sw10 {x : Int32} (h : ¬ (x.toInt < 0 ∨ 10 < x.toInt)) : x = 0 ∨ x = 1 ∨ x = 2 ∨ x = 3 ∨ x = 4 ∨ x = 5 ∨ x = 6 ∨ x = 7 ∨ x = 8 ∨ x = 9 ∨ x = 10 := by
  rcases (show x.toInt = 0 ∨ x.toInt = 1 ∨ x.toInt = 2 ∨ x.toInt = 3 ∨ x.toInt = 4 ∨ x.toInt = 5 ∨ x.toInt = 6 ∨ x.toInt = 7 ∨ x.toInt = 8 ∨ x.toInt = 9 ∨ x.toInt = 10 by omega) with h | h | h | h | h | h | h | h | h | h | h <;> rw [gk_i h] <;> decide
theorem gk_k0 {k : Int32} (h0 : ¬ k < 0) (h1 : ¬ (3000 : Int32) ≤ k) : vp_in k 3000 := by
  obtain ⟨j, hj, rfl⟩ := nI_of h0
  refine vp_in_nI (Nat.not_le.mp fun q => h1 ?_) (by decide)
  exact (nI_leI (a := 3000) (by decide) hj).mpr q
theorem gk_k2 {k : Int32} (h0 : ¬ k < 0) (h1 : ¬ (3000 : Int32) ≤ k) : ¬ k + 1 < 0 := by
  obtain ⟨j, hj, rfl⟩ := nI_of h0
  have hl : j < 3000 := Nat.not_le.mp fun q => h1 ((nI_leI (a := 3000) (by decide) hj).mpr q)
  rw [nI_1]
  exact nI_pos (by omega)
def gk_cnt (x : Int32) : Int32 := if x.toInt < 0 ∨ 6 < x.toInt then -1 else 0
