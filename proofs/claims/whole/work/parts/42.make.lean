/-! making: contracts that make cells -/
def nestI : List Cond := [.methodLinkNest RX10 67 yX0_init "LightMan", .methodLinkNest RX10 24 yX1_init "LightMan", .methodLinkNest RX10 12 yX2_init "LightMan", .methodLinkNest RX10 9 yX4_init "LightMan", .methodLinkNest RX10 15 yX5_init "LightMan", .methodLinkNest RX10 18 yX6_init "LightMan", .methodLinkNest RX10 52 yX7_init "LightMan", .methodLinkNest RX10 21 yX9_init "LightMan", .methodLinkNest RX1 3 yX4_init "LightMan", .methodLinkNest RX2 3 yX4_init "LightMan", .methodLinkNest RX5 3 yX4_init "LightMan", .methodLinkNest RX6 3 yX2_init "LightMan", .methodLinkNest RX9 3 yX5_init "LightMan"]
def castI : List Cond := [.castable RX2 RX4, .castable RX5 RX4, .castable RX6 RX4, .castable RX9 RX4, .castable RX1 RX4]
theorem nestI_tab : ∀ w ∈ nestI, w.onTables = true := by decide +kernel
theorem castI_tab : ∀ w ∈ castI, w.onTables = true := by decide +kernel
/-- what the tables say of the nest's constructors, of stores into Kind[], of arrays of references -/
def kN (U : State) : Prop := (∀ w ∈ nestI, va_Nw w U) ∧ (∀ w ∈ castI, va_Nw w U) ∧ va_AO RX4 U ∧ va_AO RX3 U
theorem kN.same {u U : State} (hv : U.vm = u.vm) (h : kN u) : kN U :=
  ⟨fun w hw => va_Nw.same (nestI_tab w hw) hv.symm (h.1 w hw), fun w hw => va_Nw.same (castI_tab w hw) hv.symm (h.2.1 w hw), h.2.2.1.moved (by rw [hv]; exact Vm.Alike.refl u.vm), h.2.2.2.moved (by rw [hv]; exact Vm.Alike.refl u.vm)⟩
theorem kN.warm {s U : State} (hW : s.WarmedH U.vm) (h : kN s) : kN U := by
  refine ⟨?_, ?_, h.2.2.1.moved hW.alike, h.2.2.2.moved hW.alike⟩
  · intro w hw
    have h0 := h.1 w hw
    simp only [nestI, List.mem_cons, List.not_mem_nil, or_false] at hw
    rcases hw with rfl | rfl | rfl | rfl | rfl | rfl | rfl | rfl | rfl | rfl | rfl | rfl | rfl <;> exact va_Nw.warmM hW h0
  · intro w hw
    have h0 := h.2.1 w hw
    simp only [castI, List.mem_cons, List.not_mem_nil, or_false] at hw
    rcases hw with rfl | rfl | rfl | rfl | rfl <;> exact va_Nw.warmC hW h0
theorem va_Z.grow {C n d : String} {v : Value} {A B : Nat → Prop} {U : State} {H : Heap} (h : va_Z C n d v A U H) (hAB : ∀ q, q < H.size → B q → A q) : va_Z C n d v B U H := by
  obtain ⟨cf, kf, fi, f, a, cell, h1, h2, h3, h4, h5, h6, h7, h8⟩ := h
  exact ⟨cf, kf, fi, f, a, cell, h1, h2, h3, h4, h5, h6, h7, fun z => h8 (hAB a (Array.getElem?_eq_some_iff.mp h5).1 z)⟩
theorem va_T.grow {ty : FieldType} {t N : Nat} {f : Nat → Value} {A B : Nat → Prop} {U : State} {H : Heap} (h : va_T ty t N f A U H) (hAB : ∀ q, q < H.size → B q → A q) : va_T ty t N f B U H := by
  obtain ⟨cell, h1, h2, h3, h4, h5, h6, h7⟩ := h
  exact ⟨cell, h1, h2, h3, h4, h5, h6, fun z => h7 (hAB t (Array.getElem?_eq_some_iff.mp h1).1 z)⟩
theorem va_O.grow {E : String} {t : Nat} {A B : Nat → Prop} {U : State} {H : Heap} (h : va_O E t A U H) (hAB : ∀ q, q < H.size → B q → A q) : va_O E t B U H := by
  obtain ⟨cell, h1, h2, h3, h4⟩ := h
  exact ⟨cell, h1, h2, h3, fun z => h4 (hAB t (Array.getElem?_eq_some_iff.mp h1).1 z)⟩
theorem va_OF.grow {o n d : String} {v : Value} {t : Nat} {A B : Nat → Prop} {U : State} {H : Heap} (h : va_OF o n d v t A U H) (hAB : ∀ q, q < H.size → B q → A q) : va_OF o n d v t B U H := by
  obtain ⟨cf, k, i, f, cell, h1, h2, h3, h4, h5, h6⟩ := h
  exact ⟨cf, k, i, f, cell, h1, h2, h3, h4, h5, fun z => h6 (hAB t (Array.getElem?_eq_some_iff.mp h3).1 z)⟩
theorem sta.grow {g : GG} {A B : Nat → Prop} {U : State} {H : Heap} (h : sta g A U H) (hAB : ∀ q, q < H.size → B q → A q) : sta g B U H := by
  refine ⟨⟨h.1.1.grow hAB, h.1.2.grow hAB⟩, ⟨h.2.1.1.grow hAB, h.2.1.2.grow hAB⟩, ⟨h.2.2.1.1.grow hAB, h.2.2.1.2.grow hAB⟩, h.2.2.2.1.grow hAB, ⟨fun i hi => ?_, h.2.2.2.2.1.2⟩, ?_⟩
  · have q := h.2.2.2.2.1.1 i hi
    exact ⟨q.1.grow hAB, q.2.1.grow hAB, q.2.2.1.grow hAB, q.2.2.2.grow hAB⟩
  · rcases h.2.2.2.2.2 with q | ⟨t, q⟩
    · exact Or.inl (q.grow hAB)
    · exact Or.inr ⟨t, q.grow hAB⟩
def mtAP (g : GG) (as : List Value) (ws : va_W) (sz : Nat) : Array Value → State → Prop := fun a U => mtP g as ws a U ∧ U.heap.size = sz ∧ kN U
def mtAQ (g : GG) (ws : va_W) (sz : Nat) (Post : Option Value → va_W → Prop) : Array Value → State → Outcome → State → Prop := fun _ st o t => ∃ (rv : Option Value) (ws' : va_W), o = .returned rv ∧ Post rv ws' ∧ va_P g.1 vwCl ws' t.heap ∧ va_D (va_A ws sz) ws' ∧ va_F (va_A ws sz) st t
/-- a contract that makes mc cells of ms slots; sz: the heap's size at its start -/
def mtA (l : Launch) (g : GG) (y : MethodName) (cw : List Cond) (rm : Room) (as : List Value) (ws : va_W) (sz : Nat) (Post : Option Value → va_W → Prop) (mc ms : Nat) : Prop :=
  Met l y cw rm (mtAP g as ws sz) (mtAQ g ws sz Post) mc ms (va_A ws sz)
theorem mtAP.blind (g : GG) (as : List Value) (ws : va_W) (sz : Nat) : FrameBlind (mtAP g as ws sz) := fun a U f mk h => ⟨mtP.blind g as ws a U f mk h.1, h.2.1, kN.same (u := U) rfl h.2.2⟩
theorem mtA.of {l : Launch} {g : GG} {y : MethodName} {cw cw' : List Cond} {rm : Room} {as : List Value} {ws : va_W} {sz mc ms : Nat} {Post : Option Value → va_W → Prop} {cc : ByteArray} {nL : Nat} {ret : Option FieldType} {own : String}
    (hy : plainFor y = true) (ho : y.cls = own) (hcw : cw = Cond.code y cc nL ret :: cw') (hlen : (lg_sl as).length ≤ nL)
    (body : ∀ (p : Program) (e : Env) (s : State) (m : MethodId) (below : List Frame) (meth : Method) (c : Code), CallFix p m c cc nL s as.toArray cw own → meth.sig.returnType = ret → meth.locks = false → meth.name = y.name → kk g s → kN s → sta g (va_A ws sz) s s.heap → hv g (va_A ws sz) s s.heap [] ws → (∀ q, s.heap.size ≤ q → va_A ws sz q) → ∀ ls : Array Slot, lv_has ls nL (lv_args 0 as) →
      W p l e rm s m as.toArray below meth c s.heap [] 0 0 (MQ below (mtAQ g ws sz Post) as.toArray s mc ms (va_A ws sz)) (F0 m 0 ls [])) : mtA l g y cw rm as ws sz Post mc ms := by
  refine metF (cc := cc) (maxL := nL) (ret := ret) hy hcw ?_
  intro p e s m args below meth c s₁ B hml hq
  obtain ⟨⟨rfl, hk, hst, hP, hD⟩, hsz, hN⟩ := hq
  have hts := atoms_spec (ws := cw) B.pre
  have hown : s.vm.findClass own = some m.cls := by rw [← ho]; exact findClass_of_methodNamed B.named
  have hl := lv_entry as (n := nL) hlen
  rw [lg_entry_eq]
  have hst2 : sta g (va_A ws sz) s s.heap := hst.grow (fun q h1 h2 => h2.resolve_right (by omega))
  exact body p e s m below meth c ⟨B.exec, B.bytes, hml, hown, hts⟩ B.returns B.notSynchronized (name_of_methodNamed B.named B.method).1 hk hN hst2 ⟨hP, hD.self, va_S.rf⟩ (fun q h => Or.inr (by omega)) _ hl
section CORE42
variable {p : Program} {l : Launch} {e : Env} {R : Room} {s : State} {m : MethodId} {args : Array Value} {below : List Frame} {meth : Method} {c : Code} {H : Heap} {locs : List Loc} {cells slots : Nat} {Q : State → Prop}
variable {cc : ByteArray} {nL pc : Nat} {Ts : List Cond} {own : String} {ls : Array Slot} {rest st0 : List Value} {g : GG} {A : Nat → Prop} {W0 : va_W} {a : Nat}
theorem rA_v {ws : va_W} {sz : Nat} {Post : Option Value → va_W → Prop} (hf : CallFix p m c cc nL s args Ts own) (hr : meth.sig.returnType = none) (hlk : meth.locks = false) (hw : hv g (va_A ws sz) s H locs W0) (hP : Post none W0) (hdg : decode cc pc = .ok (.return_, 1)) :
    W p l e R s m args below meth c H locs cells slots (MQ below (mtAQ g ws sz Post) args s cells slots (va_A ws sz)) (F0 m pc ls []) :=
  W.vret hf.1 hf.2.1 hr (fun t ht _ => ⟨_, _, rfl, hP, by rw [ht]; exact hw.1, hw.2.1, hw.2.2.F ht⟩) hw.2.2.2.2 hdg hlk
theorem rA_i {ws : va_W} {sz : Nat} {v : Int32} {Post : Option Value → va_W → Prop} (hf : CallFix p m c cc nL s args Ts own) (hr : meth.sig.returnType = some .int) (hlk : meth.locks = false) (hw : hv g (va_A ws sz) s H locs W0) (hP : Post (some (.int v)) W0) (hdg : decode cc pc = .ok (.ireturn, 1)) :
    W p l e R s m args below meth c H locs cells slots (MQ below (mtAQ g ws sz Post) args s cells slots (va_A ws sz)) (F0 m pc ls [.int v]) :=
  W.iret hf.1 hf.2.1 hr (fun t ht _ => ⟨_, _, rfl, hP, by rw [ht]; exact hw.1, hw.2.1, hw.2.2.F ht⟩) hw.2.2.2.2 hdg hlk
theorem RA_eq {U : State} {x y : ClassId} {ty : FieldType} (h1 : va_RA U x ty) (h2 : va_RA U y ty) : x = y := by
  cases ty with
  | object C =>
    obtain ⟨_, _, _, _, _, a1⟩ := h1
    obtain ⟨_, _, _, _, _, a2⟩ := h2
    exact Option.some.inj (a1.symm.trans a2)
  | _ => exact Option.some.inj (h1.symm.trans h2)
/-- new -/
theorem rn (hf : CallFix p m c cc nL s args Ts own) (hk : kk g s) (hw : hv g A s H locs W0) (hA : ∀ q, s.heap.size ≤ q → A q) {C : String} {T : u_T} {N ci index : Nat} (hin : ∀ w ∈ u_ws C T N, w ∈ Ts) (ty : Nat → FieldType) (hty : ∀ k, k < N → parseFieldDescriptor (T k).2.2.1 = some (ty k)) (hcl : Cond.classLink own index C ∈ Ts) (hinst : Cond.instantiable C N ∈ Ts) (hini : Cond.initialized C ∈ Ts) (hc : vwCl[ci]? = some (C, T, N)) {fs : List Value} (hfs : ∀ j, j < N → defaultValue (ty j) = vp_V fs j) (hcells : cells + 1 ≤ R.cells) (hslots : slots + N ≤ R.slots) (hdg : decode cc pc = .ok (.new index, 3)) {W' : Nat → va_W} (hW' : ∀ q, W0 ++ [(q, .inr (ci, fs))] = W' q)
    (kk : ∀ (q : Nat) (H1 : Heap), hv g A s H1 locs (W' q) → W p l e R s m args below meth c H1 locs (cells + 1) (slots + N) Q (F0 m (pc + 3) ls (.ref q :: rest))) : W p l e R s m args below meth c H locs cells slots Q (F0 m pc ls rest) :=
  va_new (ci := ci) (fs := fs) hf.1 hf.2.1 hf.2.2.2.2 hin ty hty hf.2.2.2.1 (hf.2.2.2.2 _ hcl) (hf.2.2.2.2 _ hinst) (hf.2.2.2.2 _ hini) hk.1 hw.1 hw.2.1 hw.2.2 hA hc hfs hcells hslots hdg (fun q H1 h1 h2 h3 => kk q H1 (by rw [← hW']; exact ⟨h1, h2, h3⟩))
theorem rna (hf : CallFix p m c cc nL s args Ts own) (hk : kk g s) (hw : hv g A s H locs W0) (hA : ∀ q, s.heap.size ≤ q → A q) (t0 : Nat) {atype : ArrayType} {ty : FieldType} {cA : ClassId} (harr : Cond.arrayClass (newarray.typeOf atype) ∈ Ts) (hty : newarray.typeOf atype = ty) (ht : (gy g)[t0]? = some (cA, ty)) {n : Int32} {N : Nat} (ha : ∀ x : ClassId, vp_cell x (N, .inl (fun _ => (0 : Int32))) = arrV x N (fun _ => defaultValue ty)) (hn : ¬ n < 0) (hN : n.toNatClampNeg = N) (hbytes : N * componentBytes ty ≤ 536870912) (hcells : cells + 1 ≤ R.cells) (hslots : slots + N ≤ R.slots) (hdg : decode cc pc = .ok (.newarray atype, 2)) {W' : Nat → va_W} (hW' : ∀ q, W0 ++ [(q, .inl (cA, N, .inl (fun _ => (0 : Int32))))] = W' q)
    (kk : ∀ (q : Nat) (H1 : Heap), hv g A s H1 locs (W' q) → W p l e R s m args below meth c H1 locs (cells + 1) (slots + N) Q (F0 m (pc + 2) ls (.ref q :: rest))) : W p l e R s m args below meth c H locs cells slots Q (F0 m pc ls (.int n :: rest)) := by
  refine va_newa hf.1 hf.2.1 (hf.2.2.2.2 _ harr) hty hk.1 hw.1 hw.2.1 hw.2.2 hA ha hn hN hbytes hcells hslots hdg (fun q x H1 h0 h1 h2 h3 => ?_)
  have e : x = cA := RA_eq ((h0.2 (gy g).length (x, ty) (by simp)).2) ((hk.1.2 t0 _ ht).2)
  subst e
  exact kk q H1 (by rw [← hW']; exact ⟨h1, h2, h3⟩)
theorem rnq (hf : CallFix p m c cc nL s args Ts own) (hk : kk g s) (hw : hv g A s H locs W0) (hA : ∀ q, s.heap.size ≤ q → A q) (t0 : Nat) {C : String} {cA : ClassId} {index : Nat} (hcl : Cond.classLink own index C ∈ Ts) (hao : va_AO C s) (ht : (gy g)[t0]? = some (cA, .object C)) {n : Int32} {N : Nat} (hn : ¬ n < 0) (hN : n.toNatClampNeg = N) (hbytes : N * 4 ≤ 536870912) (hcells : cells + 1 ≤ R.cells) (hslots : slots + N ≤ R.slots) (hdg : decode cc pc = .ok (.anewarray index, 3)) {W' : Nat → va_W} (hW' : ∀ q, W0 ++ [(q, .inl (cA, N, .inr (.inr (.inr (.inr (fun _ => none))))))] = W' q)
    (kk : ∀ (q : Nat) (H1 : Heap), hv g A s H1 locs (W' q) → W p l e R s m args below meth c H1 locs (cells + 1) (slots + N) Q (F0 m (pc + 3) ls (.ref q :: rest))) : W p l e R s m args below meth c H locs cells slots Q (F0 m pc ls (.int n :: rest)) := by
  refine va_newq hf.1 hf.2.1 hf.2.2.2.1 (hf.2.2.2.2 _ hcl) hao hk.1 hw.1 hw.2.1 hw.2.2 hA hn hN hbytes hcells hslots hdg (fun q x H1 h0 h1 h2 h3 => ?_)
  have e : x = cA := RA_eq ((h0.2 (gy g).length (x, .object C) (by simp)).2) ((hk.1.2 t0 _ ht).2)
  subst e
  exact kk q H1 (by rw [← hW']; exact ⟨h1, h2, h3⟩)
/-- putfield of a final field, in a constructor -/
theorem rpF (hf : CallFix p m c cc nL s args Ts own) (hk : kk g s) (hw : hv g A s H locs W0) (hnm : meth.name = "<init>") {C : String} {T : u_T} {N ci index : Nat} (hin : ∀ w ∈ u_ws C T N, w ∈ Ts) (ty0 : Nat → FieldType) (hty : ∀ k, k < N → parseFieldDescriptor (T k).2.2.1 = some (ty0 k)) (hnd : ∀ a, a < N → ∀ b, b < N → a ≠ b → (T a).2.1 ≠ (T b).2.1) (q0 : Nat) {fs : List Value} (he : W0[q0]? = some (a, .inr (ci, fs))) (hc : vwCl[ci]? = some (C, T, N)) (k : Nat) (hkN : k < N) (hl : Cond.fieldLink own index (T k).1 (T k).2.1 (T k).2.2.1 ∈ Ts) (hfin : (T k).2.2.2 = true) (hdecl : (T k).1 = own) {v : Value} (hn : narrow (ty0 k) v = v) (hfit : fits (ty0 k) v = true) (hlen : k < fs.length) (hdg : decode cc pc = .ok (.putfield index, 3)) {W' : va_W} (hW' : W0.set q0 (a, .inr (ci, fs.set k v)) = W')
    (kk : ∀ (H1 : Heap) (locs1 : List Loc), hv g A s H1 locs1 W' → W p l e R s m args below meth c H1 locs1 cells slots Q (F0 m (pc + 3) ls rest)) : W p l e R s m args below meth c H locs cells slots Q (F0 m pc ls (v :: .ref a :: rest)) := by
  subst hW'
  exact va_putF hf.1 hf.2.1 hf.2.2.2.2 hin ty0 hty hnd hf.2.2.2.1 hk.1 hw.1 hw.2.1 hw.2.2 q0 he hc k hkN (hf.2.2.2.2 _ hl) (fun _ h => h) hfin hnm hdecl (hty k hkN) hn hfit hlen hdg (fun H1 locs1 h1 h2 h3 => kk H1 locs1 ⟨h1, h2, h3⟩)
/-- Kind[]: a kind stored -/
theorem rkS (hf : CallFix p m c cc nL s args Ts own) (hk : kk g s) (hw : hv g A s H locs W0) (q0 qk ci : Nat) {r : vw_C} {n v : Nat} {vs : List Value} {f : Nat → Option Nat} (ha : W0[q0]? = some (a, .inl (gK g, n, .inr (.inr (.inr (.inr f)))))) (hca : va_Nw (.castable r.1 RX4) s) (hv0 : W0[qk]? = some (v, .inr (ci, vs))) (hc : vwCl[ci]? = some r) {i : Int32} {j : Nat} (hin : vp_in i n) (hj : i.toNatClampNeg = j) (hdg : decode cc pc = .ok (.aastore, 1)) {W' : va_W} (hW' : W0.set q0 (a, .inl (gK g, n, .inr (.inr (.inr (.inr (va_up f j (some v))))))) = W')
    (kk : ∀ (H1 : Heap) (locs1 : List Loc), hv g A s H1 locs1 W' → W p l e R s m args below meth c H1 locs1 cells slots Q (F0 m (pc + 1) ls rest)) : W p l e R s m args below meth c H locs cells slots Q (F0 m pc ls (.ref v :: .int i :: .ref a :: rest)) := by
  subst hj; subst hW'
  exact va_astqO hf.1 hf.2.1 hk.1 hw.1 hw.2.1 hw.2.2 q0 3 qk ci ha rfl hca hv0 hc hin hdg (fun H1 locs1 h1 h2 h3 => kk H1 locs1 ⟨h1, h2, h3⟩)
theorem rk0 (hf : CallFix p m c cc nL s args Ts own) (hk : kk g s) (hw : hv g A s H locs W0) (q0 qk : Nat) {n v : Nat} {vs : List Value} {f : Nat → Option Nat} (ha : W0[q0]? = some (a, .inl (gK g, n, .inr (.inr (.inr (.inr f)))))) (hv0 : W0[qk]? = some (v, .inr (4, vs))) {i : Int32} {j : Nat} (hin : vp_in i n) (hj : i.toNatClampNeg = j) (hdg : decode cc pc = .ok (.aastore, 1)) {W' : va_W} (hW' : W0.set q0 (a, .inl (gK g, n, .inr (.inr (.inr (.inr (va_up f j (some v))))))) = W')
    (kk : ∀ (H1 : Heap) (locs1 : List Loc), hv g A s H1 locs1 W' → W p l e R s m args below meth c H1 locs1 cells slots Q (F0 m (pc + 1) ls rest)) : W p l e R s m args below meth c H locs cells slots Q (F0 m pc ls (.ref v :: .int i :: .ref a :: rest)) := by
  subst hj; subst hW'
  exact va_astq hf.1 hf.2.1 hk.1 hw.1 hw.2.1 hw.2.2 q0 3 qk 4 (r := (RX4, TX4, 0)) ha rfl hv0 rfl hin hdg (fun H1 locs1 h1 h2 h3 => kk H1 locs1 ⟨h1, h2, h3⟩)
/-- char[] written -/
theorem rcs (hf : CallFix p m c cc nL s args Ts own) (hk : kk g s) (hw : hv g A s H locs W0) (q0 : Nat) {n : Nat} {f : Nat → Int32} (ha : W0[q0]? = some (a, .inl (gC g, n, .inl f))) {i x : Int32} {j : Nat} (hin : vp_in i n) (hj : i.toNatClampNeg = j) (hdg : decode cc pc = .ok (.castore, 1)) {W' : va_W} (hW' : W0.set q0 (a, .inl (gC g, n, .inl (upd f j (vp_nar .char x)))) = W')
    (kk : ∀ (H1 : Heap) (locs1 : List Loc), hv g A s H1 locs1 W' → W p l e R s m args below meth c H1 locs1 cells slots Q (F0 m (pc + 1) ls rest)) : W p l e R s m args below meth c H locs cells slots Q (F0 m pc ls (.int x :: .int i :: .ref a :: rest)) := by
  subst hj; subst hW'
  exact va_cast hf.1 hf.2.1 hk.1 hw.1 hw.2.1 hw.2.2 q0 2 ha rfl hin hdg (fun H1 locs1 h1 h2 h3 => kk H1 locs1 ⟨h1, h2, h3⟩)
theorem mgoA {ws wr : va_W} {Post : Option Value → va_W → Prop} {mc ms : Nat} {ar : Array Value} (hr : va_Run p l e R s m args below meth c H locs cells slots mc ms (F0 m pc ls st0) rest (mtAQ g ws H.size Post ar) (va_A ws H.size)) (hw : hv g A s H locs W0) (hA : ∀ q, s.heap.size ≤ q → A q) (is isR : List Nat) (hC : is.map (fun i => W0[i]?) = ws.map some) (hR : isR.map (fun i => W0[i]?) = wr.map some) (hnR : va_nd isR = true) (hdis : ∀ i ∈ isR, i ∉ is)
    (kk : ∀ (rv : Option Value) (ws' : va_W), Post rv ws' → ∀ (H1 : Heap) (locs1 : List Loc), hv g A s H1 locs1 (wr ++ ws') → W p l e R s m args below meth c H1 locs1 (cells + mc) (slots + ms) Q (F0 m (pc + 3) ls (rv.toList ++ rest))) : W p l e R s m args below meth c H locs cells slots Q (F0 m pc ls st0) := by
  intro T hT X
  obtain ⟨v, st₀, t, T', L, h0, X', hL, e1, e2, ⟨rv, ws', hv0, hPo, hP1, hD1, hz, hkq⟩, st⟩ := hr T hT X
  cases hv0
  rw [h0] at hz hkq
  have hFc := va_free (wc := ws) hw.2.1 hw.2.2 hA is hC
  have hS1 : va_S A s.heap T'.heap (locs ++ L) := ⟨Nat.le_trans hw.2.2.1 (by rw [e1]; exact hz), fun q h1 h2 => by rw [e1, hkq q (Nat.lt_of_lt_of_le h1 hw.2.2.1) (fun z => h2 (hFc q z))]; exact hw.2.2.2.1 q h1 h2, fun q hq => by
      rcases List.mem_append.mp hq with h | h
      · exact hw.2.2.2.2 q h
      · exact hFc _ (hL q h)⟩
  obtain ⟨hP, hD⟩ := va_join (wr := wr) (w1 := ws') hw.1 hw.2.1 is isR hC hR hnR hdis hkq hFc hP1 hD1
  obtain ⟨t2, a1, b1⟩ := kk v ws' hPo T'.heap (locs ++ L) ⟨by rw [e1]; exact hP, hD, hS1⟩ T' rfl X'
  exact ⟨t2, st t2 a1, b1⟩
theorem mpreA {ws : va_W} {as : List Value} (hk : kk g s) (hN : kN s) (hst : sta g A s s.heap) (hw : hv g A s H locs W0) (is : List Nat) (hC : is.map (fun i => W0[i]?) = ws.map some) (hn : va_nd is = true) : ∀ U : State, U.heap = H → s.WarmedH U.vm → mtAP g as ws H.size as.toArray U := fun U hU hW => ⟨mpre hk hst hw is hC hn U hU hW, by rw [hU], hN.warm hW⟩
/-- a constructor called -/
theorem mcI {ws wr : va_W} {Post : Option Value → va_W → Prop} {mc ms : Nat} {y : MethodName} {cw : List Cond} {rm : Room} {As : List Value} {b index n maxL : Nat} {bytes : ByteArray}
    (hf : CallFix p m c cc nL s args Ts own) (hk : kk g s) (hN : kN s) (hst : sta g A s s.heap) (hw : hv g A s H locs W0) (hA : ∀ q, s.heap.size ≤ q → A q) (hM : mtA l g y cw rm (.ref b :: As) ws H.size Post mc ms) (cwd : CallB R s args own index y bytes maxL none cw rm mc ms n ∧ y.name = "<init>" ∧ (Cond.instanceMethod y).before args s = true) (is isR : List Nat) (hC : is.map (fun i => W0[i]?) = ws.map some) (hn : va_nd is = true) (hR : isR.map (fun i => W0[i]?) = wr.map some) (hnR : va_nd isR = true) (hdis : ∀ i ∈ isR, i ∉ is) (hlen : As.length = n) (hls : ls.size = nL) (hstk : st0 = As.reverse ++ .ref b :: rest) (hroom : (rest.map fun v => v.category).sum ≤ 8) (hdg : decode cc pc = .ok (.invokespecial index, 3)) (hcs : cells + mc ≤ R.cells ∧ slots + ms ≤ R.slots)
    (kk : ∀ (rv : Option Value) (ws' : va_W), Post rv ws' → ∀ (H1 : Heap) (locs1 : List Loc), hv g A s H1 locs1 (wr ++ ws') → W p l e R s m args below meth c H1 locs1 (cells + mc) (slots + ms) Q (F0 m (pc + 3) ls (rv.toList ++ rest))) : W p l e R s m args below meth c H locs cells slots Q (F0 m pc ls st0) :=
  mgoA (va_runI hf hM cwd ⟨mtAP.blind g _ ws _, mpreA hk hN hst hw is hC hn⟩ rfl hlen hls hstk (lv_room hroom) hdg hcs) hw hA is isR hC hR hnR hdis kk
/-- a nest mate's private constructor called -/
theorem mcIN {ws wr : va_W} {Post : Option Value → va_W → Prop} {mc ms : Nat} {y : MethodName} {cw : List Cond} {rm : Room} {As : List Value} {b index n maxL : Nat} {bytes : ByteArray} {host : String}
    (hf : CallFix p m c cc nL s args Ts own) (hk : kk g s) (hN : kN s) (hst : sta g A s s.heap) (hw : hv g A s H locs W0) (hA : ∀ q, s.heap.size ≤ q → A q) (hM : mtA l g y cw rm (.ref b :: As) ws H.size Post mc ms) (cwd : va_CN R s args own index y host bytes maxL none cw rm mc ms n ∧ y.name = "<init>" ∧ (Cond.instanceMethod y).before args s = true) (is isR : List Nat) (hC : is.map (fun i => W0[i]?) = ws.map some) (hn : va_nd is = true) (hR : isR.map (fun i => W0[i]?) = wr.map some) (hnR : va_nd isR = true) (hdis : ∀ i ∈ isR, i ∉ is) (hlen : As.length = n) (hls : ls.size = nL) (hstk : st0 = As.reverse ++ .ref b :: rest) (hroom : (rest.map fun v => v.category).sum ≤ 8) (hdg : decode cc pc = .ok (.invokespecial index, 3)) (hcs : cells + mc ≤ R.cells ∧ slots + ms ≤ R.slots)
    (kk : ∀ (rv : Option Value) (ws' : va_W), Post rv ws' → ∀ (H1 : Heap) (locs1 : List Loc), hv g A s H1 locs1 (wr ++ ws') → W p l e R s m args below meth c H1 locs1 (cells + mc) (slots + ms) Q (F0 m (pc + 3) ls (rv.toList ++ rest))) : W p l e R s m args below meth c H locs cells slots Q (F0 m pc ls st0) :=
  mgoA (va_runIN hf hM cwd ⟨mtAP.blind g _ ws _, mpreA hk hN hst hw is hC hn⟩ rfl hlen hls hstk (lv_room hroom) hdg hcs) hw hA is isR hC hR hnR hdis kk
/-- a method that makes cells called -/
theorem mcVA {ws wr : va_W} {Post : Option Value → va_W → Prop} {mc ms : Nat} {y : MethodName} {cw : List Cond} {rm : Room} {As : List Value} {b index n maxL ci : Nat} {bytes : ByteArray} {ret : Option FieldType} {C : String} {T : u_T} {N : Nat} {fs : List Value}
    (hf : CallFix p m c cc nL s args Ts own) (hk : kk g s) (hN : kN s) (hst : sta g A s s.heap) (hw : hv g A s H locs W0) (hA : ∀ q, s.heap.size ≤ q → A q) (hM : mtA l g y cw rm (.ref b :: As) ws H.size Post mc ms) (cwd : CallW R s args own C index y bytes maxL ret cw rm mc ms n) (is isR : List Nat) (hC : is.map (fun i => W0[i]?) = ws.map some) (hn : va_nd is = true) (hR : isR.map (fun i => W0[i]?) = wr.map some) (hnR : va_nd isR = true) (hdis : ∀ i ∈ isR, i ∉ is) (q0 : Nat) (he : W0[q0]? = some (b, .inr (ci, fs))) (hc : vwCl[ci]? = some (C, T, N)) (hlen : As.length = n) (hls : ls.size = nL) (hstk : st0 = As.reverse ++ .ref b :: rest) (hroom : (rest.map fun v => v.category).sum ≤ 8) (hdg : decode cc pc = .ok (.invokevirtual index, 3)) (hcs : cells + mc ≤ R.cells ∧ slots + ms ≤ R.slots)
    (kk : ∀ (rv : Option Value) (ws' : va_W), Post rv ws' → ∀ (H1 : Heap) (locs1 : List Loc), hv g A s H1 locs1 (wr ++ ws') → W p l e R s m args below meth c H1 locs1 (cells + mc) (slots + ms) Q (F0 m (pc + 3) ls (rv.toList ++ rest))) : W p l e R s m args below meth c H locs cells slots Q (F0 m pc ls st0) :=
  mgoA (va_runV hf hM cwd ⟨mtAP.blind g _ ws _, va_recv hk.1 hw.1 hc he, mpreA hk hN hst hw is hC hn⟩ rfl hlen hls hstk (lv_room hroom) hdg hcs) hw hA is isR hC hR hnR hdis kk
end CORE42
