/-! the global numbers of a run: the classes' ids, the array classes, the static arrays' and the texts' addresses -/
abbrev GG : Type := va_G × ClassId × ClassId × ClassId × ClassId × ClassId × (Nat × Nat × Nat) × (Nat → Nat) × (Nat → Nat)
abbrev gI (g : GG) : ClassId := g.2.1
abbrev gB (g : GG) : ClassId := g.2.2.1
abbrev gC (g : GG) : ClassId := g.2.2.2.1
abbrev gK (g : GG) : ClassId := g.2.2.2.2.1
abbrev gT (g : GG) : ClassId := g.2.2.2.2.2.1
abbrev gS (g : GG) : Nat × Nat × Nat := g.2.2.2.2.2.2.1
abbrev gA (g : GG) : Nat → Nat := g.2.2.2.2.2.2.2.1
abbrev gV (g : GG) : Nat → Nat := g.2.2.2.2.2.2.2.2
abbrev gy (g : GG) : List (ClassId × FieldType) := [(gI g, .int), (gB g, .byte), (gC g, .char), (gK g, .object RX4), (gT g, .object RX3)]
abbrev cob (a ci : Nat) (fs : List Value) : Nat × va_E := (a, .inr (ci, fs))
abbrev cin (g : GG) (a n : Nat) (f : Nat → Int32) : Nat × va_E := (a, .inl (gI g, n, .inl f))
abbrev cby (g : GG) (a n : Nat) (f : Nat → Int32) : Nat × va_E := (a, .inl (gB g, n, .inl f))
abbrev cch (g : GG) (a n : Nat) (f : Nat → Int32) : Nat × va_E := (a, .inl (gC g, n, .inl f))
abbrev ckd (g : GG) (a n : Nat) (f : Nat → Option Nat) : Nat × va_E := (a, .inl (gK g, n, .inr (.inr (.inr (.inr f)))))
abbrev cit (g : GG) (a n : Nat) (f : Nat → Option Nat) : Nat × va_E := (a, .inl (gT g, n, .inr (.inr (.inr (.inr f)))))
/-! the texts of the tape's reader, in the order of the reference's words -/
def tq_tx : List String := ["goer", "driver", "mourner", "stoker", "widow", "child", "fog", "arms", "hum", "dread", "love", "lamp", "at", "is", "faith"]
def tq_ix : List Nat := [111, 113, 115, 117, 119, 121, 48, 62, 123, 125, 127, 129, 75, 91, 81]
def tq_len : List Nat := [4, 6, 7, 6, 5, 5, 3, 4, 3, 5, 4, 4, 2, 2, 5]
def tq_byt : List (List Int32) := [[103, 111, 101, 114], [100, 114, 105, 118, 101, 114], [109, 111, 117, 114, 110, 101, 114], [115, 116, 111, 107, 101, 114], [119, 105, 100, 111, 119], [99, 104, 105, 108, 100], [102, 111, 103], [97, 114, 109, 115], [104, 117, 109], [100, 114, 101, 97, 100], [108, 111, 118, 101], [108, 97, 109, 112], [97, 116], [105, 115], [102, 97, 105, 116, 104]]
def tq_most : Nat → Int32 := fun j => if j = 0 then 9 else 99
def tq_first : Nat → Int32 := fun j => if j = 0 then 3 else if j = 1 then 10 else if j = 2 then 90 else 20
def tq_taken : Nat → Int32 := fun j => if j = 0 then 1 else if j = 1 then 3 else if j = 2 then 5 else if j = 3 then 11 else if j = 4 then 21 else 33
/-- words of the four super calls whose method is inherited (the printed lists don't have them) -/
def xw : List Cond := [.methodLink RX9 21 ⟨"LightMan$Mourner", "pace", "(IZ)I"⟩, .sameMethod "LightMan$Mourner" "LightMan$Kind" "pace" "(IZ)I", .methodLink RX9 39 ⟨"LightMan$Mourner", "actWalks", "(LLightMan$Acting;I)I"⟩, .sameMethod "LightMan$Mourner" "LightMan$Kind" "actWalks" "(LLightMan$Acting;I)I", .methodLink RX6 35 ⟨"LightMan$Driver", "actLooks", "(LLightMan$Acting;I)I"⟩, .sameMethod "LightMan$Driver" "LightMan$Kind" "actLooks" "(LLightMan$Acting;I)I", .methodLink RX6 39 ⟨"LightMan$Driver", "actParts", "(LLightMan$Acting;I)I"⟩, .sameMethod "LightMan$Driver" "LightMan$Kind" "actParts" "(LLightMan$Acting;I)I", .superclass RX9 "LightMan$Mourner", .superclass RX6 "LightMan$Driver", .superclass "LightMan$Mourner" "LightMan$Kind", .superclass "LightMan$Driver" "LightMan$Kind", .instanceMethod yX4_pace, .instanceMethod yX4_actWalks, .instanceMethod yX4_actLooks, .instanceMethod yX4_actParts, .initialized RX4] ++ (wsX4_pace ++ (wsX4_actWalks ++ (wsX4_actLooks ++ wsX4_actParts)))
theorem xw_good : ∀ w ∈ xw, goodWord w = true := by decide +kernel
theorem xw_tab : ∀ w ∈ xw, w.onTables = true := by decide +kernel
/-- what the tables say, at a state -/
def kk (g : GG) (U : State) : Prop := va_K g.1 vwCl (gy g) U ∧ (va_Nw (.methodLinkNest RX8 57 yX10_restOf "LightMan") U ∧ va_Nw (.methodLinkNest RX8 79 yX10_heldFaith "LightMan") U) ∧ (va_Nw (.fieldLinkNest RX7 93 "LightMan" "MOST_OF_LAW" "[I" "LightMan") U ∧ va_Nw (.fieldLinkNest RX8 44 "LightMan" "LAW_AT_FIRST" "[I" "LightMan") U) ∧ (∀ i : Nat, i < 15 → vk_R RX7 (tq_ix.getD i 0) (tq_tx.getD i "") (gA g i) U) ∧ ∀ w ∈ xw, va_Nw w U
theorem kk.warm {g : GG} {s U : State} (hW : s.WarmedH U.vm) (h : kk g s) : kk g U :=
  ⟨va_K.moved hW.alike h.1, ⟨va_Nw.warmM hW h.2.1.1, va_Nw.warmM hW h.2.1.2⟩, ⟨va_Nw.warmF hW h.2.2.1.1, va_Nw.warmF hW h.2.2.1.2⟩, fun i hi => vk_R.warm hW (h.2.2.2.1 i hi), fun w hw => word_at hW (good_of_word (xw_good w hw)) (h.2.2.2.2 w hw)⟩
theorem kk.same {g : GG} {u U : State} (hv : U.vm = u.vm) (h : kk g u) : kk g U :=
  ⟨va_K.moved (by rw [hv]; exact Vm.Alike.refl u.vm) h.1, ⟨va_Nw.same rfl hv.symm h.2.1.1, va_Nw.same rfl hv.symm h.2.1.2⟩, ⟨va_Nw.same rfl hv.symm h.2.2.1.1, va_Nw.same rfl hv.symm h.2.2.1.2⟩, fun i hi => vk_R.same hv (h.2.2.2.1 i hi), fun w hw => va_Nw.same (xw_tab w hw) hv.symm (h.2.2.2.2 w hw)⟩
/-- what lies in the heap beside the worlds: static arrays, texts -/
def sta (g : GG) (A : Nat → Prop) (U : State) (H : Heap) : Prop :=
  (va_Z "LightMan" "MOST_OF_LAW" "[I" (.ref (gS g).1) A U H ∧ va_T .int (gS g).1 4 (fun j => .int (tq_most j)) A U H) ∧
  (va_Z "LightMan" "LAW_AT_FIRST" "[I" (.ref (gS g).2.1) A U H ∧ va_T .int (gS g).2.1 4 (fun j => .int (tq_first j)) A U H) ∧
  (va_Z "LightMan" "TAKEN_FOR" "[I" (.ref (gS g).2.2) A U H ∧ va_T .int (gS g).2.2 6 (fun j => .int (tq_taken j)) A U H) ∧
  va_Z "java/lang/String" "COMPACT_STRINGS" "Z" (.int 1) A U H ∧ vk_S 15 tq_len tq_byt (gA g) (gV g) A U H ∧ va_Zq "jdk/internal/util/Preconditions" "SIOOBE_FORMATTER" "Ljava/util/function/BiFunction;" A U H
theorem sta.moved {g : GG} {A : Nat → Prop} {u U : State} {H : Heap} (hvm : u.vm.Alike U.vm) (h : sta g A u H) : sta g A U H :=
  ⟨⟨h.1.1.moved hvm, h.1.2.moved hvm⟩, ⟨h.2.1.1.moved hvm, h.2.1.2.moved hvm⟩, ⟨h.2.2.1.1.moved hvm, h.2.2.1.2.moved hvm⟩, h.2.2.2.1.moved hvm, h.2.2.2.2.1.moved hvm, h.2.2.2.2.2.moved hvm⟩
theorem sta.kept {g : GG} {A : Nat → Prop} {U : State} {H H1 : Heap} (h : sta g A U H) (hq : ∀ a : Nat, a < H.size → ¬ A a → H1[a]? = H[a]?) : sta g A U H1 :=
  ⟨⟨h.1.1.kept hq, h.1.2.kept hq⟩, ⟨h.2.1.1.kept hq, h.2.1.2.kept hq⟩, ⟨h.2.2.1.1.kept hq, h.2.2.1.2.kept hq⟩, h.2.2.2.1.kept hq, h.2.2.2.2.1.kept hq, h.2.2.2.2.2.kept hq⟩
theorem sta.narrow {g : GG} {A B : Nat → Prop} {U : State} {H : Heap} (h : sta g A U H) (hAB : ∀ q, B q → A q) : sta g B U H :=
  ⟨⟨h.1.1.narrow hAB, h.1.2.narrow hAB⟩, ⟨h.2.1.1.narrow hAB, h.2.1.2.narrow hAB⟩, ⟨h.2.2.1.1.narrow hAB, h.2.2.1.2.narrow hAB⟩, h.2.2.2.1.narrow hAB, h.2.2.2.2.1.narrow hAB, h.2.2.2.2.2.narrow hAB⟩
/-- the cells of a world, by their addresses -/
def va_I (ws : va_W) : Nat → Prop := fun q => ∃ (k : Nat) (e : va_E), ws[k]? = some (q, e)
/-- a world that holds: its cells, apart, in A; since the method's start nothing outside A has changed -/
def hv (g : GG) (A : Nat → Prop) (s : State) (H : Heap) (locs : List Loc) (W : va_W) : Prop := va_P g.1 vwCl W H ∧ va_D A W ∧ va_S A s.heap H locs
theorem va_I.sub {A : Nat → Prop} {W ws : va_W} (hD : va_D A W) (is : List Nat) (hC : is.map (fun i => W[i]?) = ws.map some) : ∀ q, va_I ws q → A q := by
  intro q ⟨k, e, h⟩
  have h1 : (is.map (fun i => W[i]?))[k]? = some (some (q, e)) := by rw [hC, List.getElem?_map, h]; rfl
  rw [List.getElem?_map] at h1
  cases hi : is[k]? with
  | none => rw [hi] at h1; cases h1
  | some i => rw [hi] at h1; exact hD.2 i (q, e) (Option.some.inj h1)
/-- some cells of a world replaced -/
def mrep : va_W → List Nat → va_W → va_W
  | W, i :: is, c :: cs => mrep (W.set i c) is cs
  | W, _, _ => W
/-- where a cell of the new world comes from -/
theorem mrep_at : ∀ (is : List Nat) (cs W : va_W) (k : Nat) (q : Nat × va_E), (mrep W is cs)[k]? = some q → (∃ j : Nat, is[j]? = some k ∧ cs[j]? = some q) ∨ (W[k]? = some q ∧ ∀ j : Nat, j < cs.length → is[j]? ≠ some k) := by
  intro is
  induction is with
  | nil =>
    intro cs W k q h
    have h : W[k]? = some q := by cases cs <;> exact h
    exact Or.inr ⟨h, fun j _ h2 => by simp at h2⟩
  | cons i is ih =>
    intro cs W k q h
    cases cs with
    | nil => exact Or.inr ⟨h, fun j hj => by simp at hj⟩
    | cons c cs =>
      rcases ih cs (W.set i c) k q h with ⟨j, h1, h2⟩ | ⟨h1, h2⟩
      · exact Or.inl ⟨j + 1, h1, h2⟩
      · by_cases hik : i = k
        · subst hik
          by_cases hl : i < W.length
          · rw [List.getElem?_set_self hl] at h1
            exact Or.inl ⟨0, rfl, h1⟩
          · rw [List.getElem?_eq_none (by rw [List.length_set]; omega)] at h1
            cases h1
        · rw [List.getElem?_set_ne hik] at h1
          refine Or.inr ⟨h1, fun j hj he => ?_⟩
          cases j with
          | zero => exact hik (Option.some.inj he)
          | succ j => exact h2 j (by simpa using hj) he
theorem mrep_hv {g : GG} {A : Nat → Prop} {s : State} {H H1 : Heap} {locs locs1 : List Loc} {W ws ws' : va_W} (hw : hv g A s H locs W) (is : List Nat) (hC : is.map (fun i => W[i]?) = ws.map some) (hfst : ws'.map Prod.fst = ws.map Prod.fst)
    (hP1 : va_P g.1 vwCl ws' H1) (hk : ∀ q : Nat, q < H.size → ¬ va_I ws q → H1[q]? = H[q]?) (hS : va_S A s.heap H1 locs1) : hv g A s H1 locs1 (mrep W is ws') := by
  obtain ⟨hP, hD, -⟩ := hw
  have hlen : ws'.length = ws.length := by have := congrArg List.length hfst; simpa using this
  have hlc : is.length = ws.length := by have := congrArg List.length hC; simpa using this
  have at' : ∀ (k : Nat) (q : Nat × va_E), ws[k]? = some q → ∃ i, is[k]? = some i ∧ W[i]? = some q := by
    intro k q hq
    have h1 : (is.map (fun i => W[i]?))[k]? = some (some q) := by rw [hC, List.getElem?_map, hq]; rfl
    rw [List.getElem?_map] at h1
    cases hi : is[k]? with
    | none => rw [hi] at h1; cases h1
    | some i => rw [hi] at h1; exact ⟨i, rfl, Option.some.inj h1⟩
  have fst' : ∀ (j : Nat) (q : Nat × va_E), ws'[j]? = some q → ∃ q0, ws[j]? = some q0 ∧ q0.1 = q.1 := by
    intro j q hq
    have h1 : (ws'.map Prod.fst)[j]? = some q.1 := by rw [List.getElem?_map, hq]; rfl
    rw [hfst, List.getElem?_map] at h1
    cases h2 : ws[j]? with
    | none => rw [h2] at h1; cases h1
    | some q0 => rw [h2] at h1; exact ⟨q0, rfl, Option.some.inj h1⟩
  have key : ∀ (k : Nat) (q : Nat × va_E), (mrep W is ws')[k]? = some q → (∃ q0, W[k]? = some q0 ∧ q0.1 = q.1) ∧ va_at g.1 vwCl q H1 := by
    intro k q hk'
    rcases mrep_at is ws' W k q hk' with ⟨j, h1, h2⟩ | ⟨h1, h2⟩
    · obtain ⟨q0, h3, h4⟩ := fst' j q h2
      obtain ⟨i, h5, h6⟩ := at' j q0 h3
      cases h1.symm.trans h5
      exact ⟨⟨q0, h6, h4⟩, hP1 j q h2⟩
    · refine ⟨⟨q, h1, rfl⟩, (hP k q h1).kept (hk q.1 (hP k q h1).lt ?_)⟩
      intro ⟨j, e, hj⟩
      obtain ⟨i, h5, h6⟩ := at' j _ hj
      have hik := hD.1 k i q (q.1, e) h1 h6 rfl
      subst hik
      exact h2 j (by rw [hlen, ← hlc]; exact (List.getElem?_eq_some_iff.mp h5).1) h5
  refine ⟨fun k q hk' => (key k q hk').2, ⟨fun i j x y hi hj hxy => ?_, fun k q hk' => ?_⟩, hS⟩
  · obtain ⟨⟨x0, a1, a2⟩, -⟩ := key i x hi
    obtain ⟨⟨y0, b1, b2⟩, -⟩ := key j y hj
    exact hD.1 i j x0 y0 a1 b1 (a2.trans (hxy.trans b2.symm))
  · obtain ⟨⟨q0, a1, a2⟩, -⟩ := key k q hk'
    rw [← a2]
    exact hD.2 k q0 a1
/-- a contract: from any state with these arguments and this world, the method returns rv, and the world is ws' -/
def mtP (g : GG) (as : List Value) (ws : va_W) : Array Value → State → Prop := va_Pc as (fun U => kk g U ∧ sta g (va_I ws) U U.heap ∧ va_P g.1 vwCl ws U.heap ∧ va_D (va_I ws) ws)
def mtQ (g : GG) (ws : va_W) (rv : Option Value) (ws' : va_W) : Array Value → State → Outcome → State → Prop := fun _ st o t => o = .returned rv ∧ va_P g.1 vwCl ws' t.heap ∧ va_F (va_I ws) st t
def mt (l : Launch) (g : GG) (y : MethodName) (cw : List Cond) (rm : Room) (as : List Value) (ws : va_W) (rv : Option Value) (ws' : va_W) : Prop :=
  ws'.map Prod.fst = ws.map Prod.fst ∧ Met l y cw rm (mtP g as ws) (mtQ g ws rv ws') 0 0 (va_I ws)
theorem mtP.blind (g : GG) (as : List Value) (ws : va_W) : FrameBlind (mtP g as ws) := fun a U f mk h => ⟨h.1, kk.same (u := U) rfl h.2.1, sta.moved (u := U) (Vm.Alike.refl U.vm) h.2.2.1, h.2.2.2⟩
theorem metF {l : Launch} {y : MethodName} {ws ws' : List Cond} {rm : Room} {Pc : Array Value → State → Prop} {Qc : Array Value → State → Outcome → State → Prop} {mc ms : Nat} {free : Addr → Prop} {cc : ByteArray} {maxL : Nat} {ret : Option FieldType}
    (hy : plainFor y = true) (hw : ws = Cond.code y cc maxL ret :: ws')
    (body : ∀ p e s m args below meth c s₁, BodyLoose p l y (headSpec ws rm) cc maxL ret e s m args below meth c s₁ → c.maxLocals = maxL → Pc args s →
      W p l e (headSpec ws rm).room s m args below meth c s.heap [] 0 0 (MQ below Qc args s mc ms free) (entryFrame m args maxL)) : Met l y ws rm Pc Qc mc ms free := by
  refine MetFree.of_bodySF (code := cc) (maxLocals := maxL) (ret := ret) hy ?_ ?_
  · intro args s m h hn
    obtain ⟨meth, c, h1, h2, h3, h4, h5, h6, -, -⟩ := Cond.code_spec hn (atoms_spec (ws := ws) h _ (by rw [hw]; exact List.mem_cons_self))
    exact ⟨meth, c, h1, h2, h3, h4, h5, h6⟩
  · intro p e s m args below meth c s₁ B hml hP _
    have hh0 : s₁.heap = s.heap := by rw [B.state]; rfl
    obtain ⟨t, a1, o, b1, b2, b3⟩ := body p e s m args below meth c s₁ B hml hP s₁ hh0 (Stand.of_body B)
    exact ⟨t, o, a1, b1, b2, ⟨b3.1, b3.2⟩⟩
theorem mt.of {l : Launch} {g : GG} {y : MethodName} {cw cw' : List Cond} {rm : Room} {as : List Value} {ws ws' : va_W} {rv : Option Value} {cc : ByteArray} {nL : Nat} {ret : Option FieldType} {own : String}
    (hy : plainFor y = true) (ho : y.cls = own) (hcw : cw = Cond.code y cc nL ret :: cw') (hfst : ws'.map Prod.fst = ws.map Prod.fst) (hlen : (lg_sl as).length ≤ nL)
    (body : ∀ (p : Program) (e : Env) (s : State) (m : MethodId) (below : List Frame) (meth : Method) (c : Code), CallFix p m c cc nL s as.toArray cw own → meth.sig.returnType = ret → meth.locks = false → meth.name = y.name → kk g s → sta g (va_I ws) s s.heap → hv g (va_I ws) s s.heap [] ws → ∀ ls : Array Slot, lv_has ls nL (lv_args 0 as) →
      W p l e rm s m as.toArray below meth c s.heap [] 0 0 (MQ below (mtQ g ws rv ws') as.toArray s 0 0 (va_I ws)) (F0 m 0 ls [])) : mt l g y cw rm as ws rv ws' := by
  refine ⟨hfst, metF (cc := cc) (maxL := nL) (ret := ret) hy hcw ?_⟩
  intro p e s m args below meth c s₁ B hml hq
  obtain ⟨rfl, hk, hst, hP, hD⟩ := hq
  have hts := atoms_spec (ws := cw) B.pre
  have hown : s.vm.findClass own = some m.cls := by rw [← ho]; exact findClass_of_methodNamed B.named
  have hl := lv_entry as (n := nL) hlen
  rw [lg_entry_eq]
  exact body p e s m below meth c ⟨B.exec, B.bytes, hml, hown, hts⟩ B.returns B.notSynchronized (name_of_methodNamed B.named B.method).1 hk hst ⟨hP, hD, va_S.rf⟩ _ hl
def mmax32 (x y : Int32) : Int32 := if x < y then y else x
def mmin32 (x y : Int32) : Int32 := if y < x then y else x
section CORE
variable {p : Program} {l : Launch} {e : Env} {R : Room} {s : State} {m : MethodId} {args : Array Value} {below : List Frame} {meth : Method} {c : Code} {H : Heap} {locs : List Loc} {cells slots : Nat} {Q : State → Prop}
variable {cc : ByteArray} {nL pc : Nat} {Ts : List Cond} {own : String} {ls : Array Slot} {rest st0 : List Value} {g : GG} {A : Nat → Prop} {W0 : va_W} {a : Nat}
/-- behind a call -/
theorem mgo {ws ws' W' : va_W} {rv : Option Value} {ar : Array Value} (hr : va_Run p l e R s m args below meth c H locs cells slots 0 0 (F0 m pc ls st0) rest (mtQ g ws rv ws' ar) (va_I ws)) (hw : hv g A s H locs W0) (is : List Nat) (hC : is.map (fun i => W0[i]?) = ws.map some) (hfst : ws'.map Prod.fst = ws.map Prod.fst) (hW' : mrep W0 is ws' = W')
    (kk : ∀ (H1 : Heap) (locs1 : List Loc), hv g A s H1 locs1 W' → W p l e R s m args below meth c H1 locs1 cells slots Q (F0 m (pc + 3) ls (rv.toList ++ rest))) : W p l e R s m args below meth c H locs cells slots Q (F0 m pc ls st0) := by
  intro T hT X
  obtain ⟨v, st₀, t, T', L, h0, X', hL, e1, e2, ⟨hv0, hP1, hz, hkq⟩, st⟩ := hr T hT X
  cases hv0
  rw [h0] at hz hkq
  have hsub := va_I.sub hw.2.1 is hC
  have hS1 : va_S A s.heap T'.heap (locs ++ L) := ⟨Nat.le_trans hw.2.2.1 (by rw [e1]; exact hz), fun q h1 h2 => by rw [e1, hkq q (Nat.lt_of_lt_of_le h1 hw.2.2.1) (fun z => h2 (hsub q z))]; exact hw.2.2.2.1 q h1 h2, fun q hq => by
      rcases List.mem_append.mp hq with h | h
      · exact hw.2.2.2.2 q h
      · exact hsub _ (hL q h)⟩
  subst hW'
  obtain ⟨t2, a1, b1⟩ := kk T'.heap (locs ++ L) (mrep_hv hw is hC hfst (by rw [e1]; exact hP1) (fun q h1 h2 => by rw [e1]; exact hkq q h1 h2) hS1) T' rfl X'
  exact ⟨t2, st t2 a1, b1⟩
theorem mpre {ws : va_W} {as : List Value} (hk : kk g s) (hst : sta g A s s.heap) (hw : hv g A s H locs W0) (is : List Nat) (hC : is.map (fun i => W0[i]?) = ws.map some) (hn : va_nd is = true) : ∀ U : State, U.heap = H → s.WarmedH U.vm → mtP g as ws as.toArray U := by
  intro U hU hW
  have hsub := va_I.sub hw.2.1 is hC
  have hD := hw.2.1.sub is hn hC
  have hP : va_P g.1 vwCl ws H := by
    intro k q hq
    have h1 : (is.map (fun i => W0[i]?))[k]? = some (some q) := by rw [hC, List.getElem?_map, hq]; rfl
    rw [List.getElem?_map] at h1
    cases hi : is[k]? with
    | none => rw [hi] at h1; cases h1
    | some i => rw [hi] at h1; exact hw.1 i q (Option.some.inj h1)
  refine ⟨rfl, kk.warm hW hk, ?_, by rw [hU]; exact hP, ⟨hD.1, fun k q hq => ⟨k, q.2, hq⟩⟩⟩
  rw [hU]
  exact ((hst.kept hw.2.2.2.1).narrow hsub).moved hW.alike
/-- invokevirtual of a method that the receiver's own class declares -/
theorem mcV {ws ws' W' : va_W} {rv : Option Value} {y : MethodName} {cw : List Cond} {rm : Room} {As : List Value} {b index n maxL ci : Nat} {bytes : ByteArray} {ret : Option FieldType} {C : String} {T : u_T} {N : Nat} {fs : List Value}
    (hf : CallFix p m c cc nL s args Ts own) (hk : kk g s) (hst : sta g A s s.heap) (hw : hv g A s H locs W0) (hM : mt l g y cw rm (.ref b :: As) ws rv ws') (cwd : CallW R s args own C index y bytes maxL ret cw rm 0 0 n) (is : List Nat) (hC : is.map (fun i => W0[i]?) = ws.map some) (hn : va_nd is = true) (q0 : Nat) (he : W0[q0]? = some (b, .inr (ci, fs))) (hc : vwCl[ci]? = some (C, T, N)) (hlen : As.length = n) (hls : ls.size = nL) (hstk : st0 = As.reverse ++ .ref b :: rest) (hroom : (rest.map fun v => v.category).sum ≤ 8) (hdg : decode cc pc = .ok (.invokevirtual index, 3)) (hcs : cells ≤ R.cells ∧ slots ≤ R.slots) (hW' : mrep W0 is ws' = W')
    (kk : ∀ (H1 : Heap) (locs1 : List Loc), hv g A s H1 locs1 W' → W p l e R s m args below meth c H1 locs1 cells slots Q (F0 m (pc + 3) ls (rv.toList ++ rest))) : W p l e R s m args below meth c H locs cells slots Q (F0 m pc ls st0) :=
  mgo (va_runV hf hM.2 cwd ⟨mtP.blind g _ ws, va_recv hk.1 hw.1 hc he, mpre hk hst hw is hC hn⟩ rfl hlen hls hstk (lv_room hroom) hdg hcs) hw is hC hM.1 hW' kk
/-- invokestatic -/
theorem mcS {ws ws' W' : va_W} {rv : Option Value} {y : MethodName} {cw : List Cond} {rm : Room} {As : List Value} {index n maxL : Nat} {bytes : ByteArray} {ret : Option FieldType}
    (hf : CallFix p m c cc nL s args Ts own) (hk : kk g s) (hst : sta g A s s.heap) (hw : hv g A s H locs W0) (hM : mt l g y cw rm As ws rv ws') (cwd : CallB R s args own index y bytes maxL ret cw rm 0 0 n ∧ (Cond.static y).before args s = true) (is : List Nat) (hC : is.map (fun i => W0[i]?) = ws.map some) (hn : va_nd is = true) (hlen : As.length = n) (hls : ls.size = nL) (hstk : st0 = As.reverse ++ rest) (hroom : (rest.map fun v => v.category).sum ≤ 8) (hdg : decode cc pc = .ok (.invokestatic index, 3)) (hcs : cells ≤ R.cells ∧ slots ≤ R.slots) (hW' : mrep W0 is ws' = W')
    (kk : ∀ (H1 : Heap) (locs1 : List Loc), hv g A s H1 locs1 W' → W p l e R s m args below meth c H1 locs1 cells slots Q (F0 m (pc + 3) ls (rv.toList ++ rest))) : W p l e R s m args below meth c H locs cells slots Q (F0 m pc ls st0) :=
  mgo (va_runS hf hM.2 cwd ⟨mtP.blind g _ ws, mpre hk hst hw is hC hn⟩ rfl hlen hls hstk (lv_room hroom) hdg hcs) hw is hC hM.1 hW' kk
/-- invokestatic of a nest mate's private method -/
theorem mcN {ws ws' W' : va_W} {rv : Option Value} {y : MethodName} {cw : List Cond} {rm : Room} {As : List Value} {index n maxL : Nat} {bytes : ByteArray} {ret : Option FieldType} {host : String}
    (hf : CallFix p m c cc nL s args Ts own) (hk : kk g s) (hst : sta g A s s.heap) (hw : hv g A s H locs W0) (hM : mt l g y cw rm As ws rv ws') (cwd : va_CN R s args own index y host bytes maxL ret cw rm 0 0 n ∧ (Cond.static y).before args s = true ∧ True) (is : List Nat) (hC : is.map (fun i => W0[i]?) = ws.map some) (hn : va_nd is = true) (hlen : As.length = n) (hls : ls.size = nL) (hstk : st0 = As.reverse ++ rest) (hroom : (rest.map fun v => v.category).sum ≤ 8) (hdg : decode cc pc = .ok (.invokestatic index, 3)) (hcs : cells ≤ R.cells ∧ slots ≤ R.slots) (hW' : mrep W0 is ws' = W')
    (kk : ∀ (H1 : Heap) (locs1 : List Loc), hv g A s H1 locs1 W' → W p l e R s m args below meth c H1 locs1 cells slots Q (F0 m (pc + 3) ls (rv.toList ++ rest))) : W p l e R s m args below meth c H locs cells slots Q (F0 m pc ls st0) :=
  mgo (va_runSN hf hM.2 cwd ⟨mtP.blind g _ ws, mpre hk hst hw is hC hn⟩ rfl hlen hls hstk (lv_room hroom) hdg hcs) hw is hC hM.1 hW' kk
/-- invokevirtual of an inherited or overriding method -/
theorem mcU {ws ws' W' : va_W} {rv : Option Value} {x y : MethodName} {cw : List Cond} {rm : Room} {As : List Value} {b index n maxL ci : Nat} {bytes : ByteArray} {ret : Option FieldType} {C owner : String} {T : u_T} {N : Nat} {fs : List Value}
    (hf : CallFix p m c cc nL s args Ts own) (hk : kk g s) (hst : sta g A s s.heap) (hw : hv g A s H locs W0) (hM : mt l g y cw rm (.ref b :: As) ws rv ws') (cwd : va_CU R s args own C owner index x y bytes maxL ret cw rm 0 0 n) (is : List Nat) (hC : is.map (fun i => W0[i]?) = ws.map some) (hn : va_nd is = true) (q0 : Nat) (he : W0[q0]? = some (b, .inr (ci, fs))) (hc : vwCl[ci]? = some (C, T, N)) (hlen : As.length = n) (hls : ls.size = nL) (hstk : st0 = As.reverse ++ .ref b :: rest) (hroom : (rest.map fun v => v.category).sum ≤ 8) (hdg : decode cc pc = .ok (.invokevirtual index, 3)) (hcs : cells ≤ R.cells ∧ slots ≤ R.slots) (hW' : mrep W0 is ws' = W')
    (kk : ∀ (H1 : Heap) (locs1 : List Loc), hv g A s H1 locs1 W' → W p l e R s m args below meth c H1 locs1 cells slots Q (F0 m (pc + 3) ls (rv.toList ++ rest))) : W p l e R s m args below meth c H locs cells slots Q (F0 m pc ls st0) :=
  mgo (va_runU hf hM.2 cwd ⟨mtP.blind g _ ws, va_recv hk.1 hw.1 hc he, mpre hk hst hw is hC hn⟩ rfl hlen hls hstk (lv_room hroom) hdg hcs) hw is hC hM.1 hW' kk
/-- super.m(..) -/
theorem mcP {ws ws' W' : va_W} {rv : Option Value} {y : MethodName} {cw : List Cond} {rm : Room} {As : List Value} {b index n maxL ci : Nat} {bytes : ByteArray} {ret : Option FieldType} {C : String} {T : u_T} {N : Nat} {fs : List Value}
    (hf : CallFix p m c cc nL s args Ts own) (hk : kk g s) (hst : sta g A s s.heap) (hw : hv g A s H locs W0) (hM : mt l g y cw rm (.ref b :: As) ws rv ws') (cwd : va_CS R s args own index y bytes maxL ret cw rm 0 0 n) (is : List Nat) (hC : is.map (fun i => W0[i]?) = ws.map some) (hn : va_nd is = true) (q0 : Nat) (he : W0[q0]? = some (b, .inr (ci, fs))) (hc : vwCl[ci]? = some (C, T, N)) (hlen : As.length = n) (hls : ls.size = nL) (hstk : st0 = As.reverse ++ .ref b :: rest) (hroom : (rest.map fun v => v.category).sum ≤ 8) (hdg : decode cc pc = .ok (.invokespecial index, 3)) (hcs : cells ≤ R.cells ∧ slots ≤ R.slots) (hW' : mrep W0 is ws' = W')
    (kk : ∀ (H1 : Heap) (locs1 : List Loc), hv g A s H1 locs1 W' → W p l e R s m args below meth c H1 locs1 cells slots Q (F0 m (pc + 3) ls (rv.toList ++ rest))) : W p l e R s m args below meth c H locs cells slots Q (F0 m pc ls st0) :=
  mgo (va_runSU (hk.1.1 ci _ hc).2 hf hM.2 cwd ⟨mtP.blind g _ ws, va_recv hk.1 hw.1 hc he, mpre hk hst hw is hC hn⟩ rfl hlen hls hstk (lv_room hroom) hdg hcs) hw is hC hM.1 hW' kk
theorem sub_of_super {vm : Vm} {a b : ClassId} {k : Class} (hk : vm.classes[a]? = some k) (hs : k.super = some b) : vm.isSubclass a b = true := by
  have hlt : 0 < vm.classes.size := Nat.lt_of_le_of_lt (Nat.zero_le _) (Array.getElem?_eq_some_iff.mp hk).1
  obtain ⟨n, hn⟩ : ∃ n, vm.classes.size = n + 1 := ⟨vm.classes.size - 1, by omega⟩
  simp [Vm.isSubclass, hn, Vm.isSubclassAux, hk, hs]
/-- super.m(..), m inherited by the superclass -/
theorem mcQ {ws ws' W' : va_W} {rv : Option Value} {x y : MethodName} {owner : String} {cw cw' : List Cond} {rm : Room} {As : List Value} {b index n maxL ci : Nat} {bytes : ByteArray} {ret : Option FieldType} {C : String} {T : u_T} {N : Nat} {fs : List Value}
    (hf : CallFix p m c cc nL s args Ts own) (hk : kk g s) (hst : sta g A s s.heap) (hw : hv g A s H locs W0) (hM : mt l g y cw rm (.ref b :: As) ws rv ws') (hyo : y = ⟨owner, x.name, x.desc⟩) (hin : ∀ w ∈ cw, w ∈ xw) (hcw : cw = .code y bytes maxL ret :: cw') (hlk : Cond.methodLink own index x ∈ xw) (hsm : Cond.sameMethod x.cls owner x.name x.desc ∈ xw) (hsp : Cond.superclass own x.cls ∈ xw) (hsp2 : Cond.superclass x.cls owner ∈ xw) (hin1 : Cond.instanceMethod y ∈ xw) (hini : Cond.initialized y.cls ∈ xw) (hd : y.name ≠ "<init>" ∧ (parseMethodDescriptor y.desc).map (fun d => d.parameters.length) = some n) (hrc : rm.cells = 0) (hrs : rm.slots = 0) (hR : rm.frames + 1 ≤ R.frames ∧ 8 + (maxL + 11) + rm.locals ≤ R.locals)
    (is : List Nat) (hC : is.map (fun i => W0[i]?) = ws.map some) (hn : va_nd is = true) (q0 : Nat) (he : W0[q0]? = some (b, .inr (ci, fs))) (hc : vwCl[ci]? = some (C, T, N)) (hlen : As.length = n) (hls : ls.size = nL) (hstk : st0 = As.reverse ++ .ref b :: rest) (hroom : (rest.map fun v => v.category).sum ≤ 8) (hdg : decode cc pc = .ok (.invokespecial index, 3)) (hcs : cells ≤ R.cells ∧ slots ≤ R.slots) (hW' : mrep W0 is ws' = W')
    (kk : ∀ (H1 : Heap) (locs1 : List Loc), hv g A s H1 locs1 W' → W p l e R s m args below meth c H1 locs1 cells slots Q (F0 m (pc + 3) ls (rv.toList ++ rest))) : W p l e R s m args below meth c H locs cells slots Q (F0 m pc ls st0) := by
  refine mgo (ar := (Value.ref b :: As).toArray) ?_ hw is hC hM.1 hW' kk
  have ok : ∀ w ∈ xw, w.before args s = true := fun w hw' => va_Nw.use (xw_tab w hw') (hk.2.2.2.2 w hw')
  have hcm : Cond.code y bytes maxL ret ∈ cw := by rw [hcw]; exact List.mem_cons_self
  have hws : ∀ w ∈ cw, ∀ (a' : Array Value) (U : State), s.WarmedH U.vm → w.before a' U = true := fun w hw' a' U hW => word_at hW (good_of_word (xw_good w (hin w hw'))) (ok w (hin w hw'))
  have hK : Back l R p e below s args y 3 8 (PreOf R 0 0 (mtP g (.ref b :: As) ws)) (PostOf (mtQ g ws rv ws') 0 0 (va_I ws)) := back_of (bytes := bytes) (maxL := maxL) (ret := ret) hM.2 (mtP.blind g _ ws) hrc hrs hR.1 hR.2 hws hcm (fun a' U hW => word_at hW (good_of_word (xw_good _ hini)) (ok _ hini))
  obtain ⟨cellB, hcB, hoB, hclB⟩ := va_recv hk.1 hw.1 hc he
  obtain ⟨hfc, kB, hkB, -⟩ := (hk.1.1 ci _ hc).2
  have hcc : g.1.1 ci = cellB.cls := Option.some.inj (hfc.symm.trans hclB)
  rw [hcc] at hkB
  have hPre : ∀ U : State, U.heap = H → s.WarmedH U.vm → mtP g (.ref b :: As) ws (Value.ref b :: As).toArray U := mpre hk hst hw is hC hn
  intro T hT X
  obtain ⟨mk, methM, hnamed, hmethM, hstM, habM⟩ := Cond.instanceMethod_spec (ok _ hin1)
  obtain ⟨methM', cM, hmethM', -, -, -, -, -, -, hsigM⟩ := Cond.code_spec hnamed (ok _ (hin _ hcm))
  cases hmethM.symm.trans hmethM'
  obtain ⟨ps, dk, kp, hps, hdk, hkp, hsuper, -, -, hnid⟩ := Cond.superclass_spec hf.2.2.2.1 (ok _ hsp)
  obtain ⟨ps2, dk2, kp2, hps2, hdk2, -, hsuper2, -, -, -⟩ := Cond.superclass_spec hps (ok _ hsp2)
  have hpm : ps2 = mk.cls := Option.some.inj (hps2.symm.trans (by have := findClass_of_methodNamed hnamed; rw [hyo] at this; exact this))
  have hsub : s.vm.isSubclass ps mk.cls = true := sub_of_super hdk2 (by rw [← hpm]; exact hsuper2)
  have hsl : ∀ sig, parseMethodDescriptor y.desc = some sig → As.length = sig.parameters.length := by
    intro sig h
    have h2 := hd.2
    rw [h] at h2
    rw [hlen]
    exact (Option.some.inj h2).symm
  obtain ⟨vm₁, X₁, hstep₁⟩ := X.invokespecialUp hf.1 hf.2.2.2.1 (ok _ hlk) (ok _ hsm) (by rw [← hyo]; exact hnamed) hmethM hstM habM (by have := hd.1; rw [hyo] at this; exact this) hdk hnid hps hsuper hsub (a := b) (cell := cellB) (by rw [hT]; exact hcB)
    (fun z h => by rw [h] at hoB; cases hoB) hkB (g := F0 m pc ls st0) rfl (argsL := As) (rest := rest) (hsl _ hsigM) hstk (by rw [hf.2.1]; exact hdg)
  obtain ⟨v, ⟨U', l2, c2, s2⟩, X', ⟨g', mk', t, L, e1, e2, hq, h1, hL, h2, h3⟩, hsteps⟩ := hK m meth c ⟨T.setVm vm₁, locs, cells, slots⟩ { F0 m pc ls st0 with stack := rest } (.invokespecial index) mk (Value.ref b :: As).toArray X₁ rfl (hls.trans hf.2.2.1.symm) (by rw [hf.2.1]; exact hdg) (lv_room hroom) (X₁.named hnamed) ⟨hcs.1, hcs.2, hPre (T.setVm vm₁) hT X₁.warmed⟩
  dsimp only [Pt.U, Pt.locs, Pt.cells, Pt.slots] at X' e1 e2 h1 h2 h3 hsteps
  subst h1; subst h2; subst h3
  exact ⟨v, (T.setVm vm₁).calling g' mk' (Value.ref b :: As).toArray, t, U', L, hT, X', hL, e1, e2, hq, fun target h => hstep₁ _ (by rw [doInvoke_state]; exact hsteps.trans h)⟩
/-! heap rows over a bundled world -/
theorem rg (hf : CallFix p m c cc nL s args Ts own) (hk : kk g s) (hw : hv g A s H locs W0) {C : String} {T : u_T} {N ci index : Nat} (hin : ∀ w ∈ u_ws C T N, w ∈ Ts) (q0 : Nat) {fs : List Value} (he : W0[q0]? = some (a, .inr (ci, fs))) (hc : vwCl[ci]? = some (C, T, N)) (k : Nat) (hkN : k < N) (hl : Cond.fieldLink own index (T k).1 (T k).2.1 (T k).2.2.1 ∈ Ts) {v : Value} (hv0 : fs[k]? = some v) (hdg : decode cc pc = .ok (.getfield index, 3))
    (kk : W p l e R s m args below meth c H locs cells slots Q (F0 m (pc + 3) ls (v :: rest))) : W p l e R s m args below meth c H locs cells slots Q (F0 m pc ls (.ref a :: rest)) :=
  va_get hf.1 hf.2.1 hf.2.2.2.2 hin hf.2.2.2.1 hk.1 hw.1 q0 he hc k hkN (hf.2.2.2.2 _ hl) (fun _ h => h) hv0 hdg kk
theorem rp (hf : CallFix p m c cc nL s args Ts own) (hk : kk g s) (hw : hv g A s H locs W0) {C : String} {T : u_T} {N ci index : Nat} (hin : ∀ w ∈ u_ws C T N, w ∈ Ts) (ty0 : Nat → FieldType) (hty : ∀ k, k < N → parseFieldDescriptor (T k).2.2.1 = some (ty0 k)) (hnm : ∀ a, a < N → ∀ b, b < N → a ≠ b → (T a).2.1 ≠ (T b).2.1) (q0 : Nat) {fs : List Value} (he : W0[q0]? = some (a, .inr (ci, fs))) (hc : vwCl[ci]? = some (C, T, N)) (k : Nat) (hkN : k < N) (hl : Cond.fieldLink own index (T k).1 (T k).2.1 (T k).2.2.1 ∈ Ts) (hfin : (T k).2.2.2 = false) {v : Value} (hn : narrow (ty0 k) v = v) (hfit : fits (ty0 k) v = true) (hlen : k < fs.length) (hdg : decode cc pc = .ok (.putfield index, 3)) {W' : va_W} (hW' : W0.set q0 (a, .inr (ci, fs.set k v)) = W')
    (kk : ∀ (H1 : Heap) (locs1 : List Loc), hv g A s H1 locs1 W' → W p l e R s m args below meth c H1 locs1 cells slots Q (F0 m (pc + 3) ls rest)) : W p l e R s m args below meth c H locs cells slots Q (F0 m pc ls (v :: .ref a :: rest)) := by
  subst hW'
  exact va_put hf.1 hf.2.1 hf.2.2.2.2 hin ty0 hty hnm hf.2.2.2.1 hk.1 hw.1 hw.2.1 hw.2.2 q0 he hc k hkN (hf.2.2.2.2 _ hl) (fun _ h => h) hfin (hty k hkN) hn hfit hlen hdg (fun H1 locs1 h1 h2 h3 => kk H1 locs1 ⟨h1, h2, h3⟩)
theorem ril (hf : CallFix p m c cc nL s args Ts own) (hk : kk g s) (hw : hv g A s H locs W0) (q0 : Nat) {n : Nat} {f : Nat → Int32} (ha : W0[q0]? = some (a, .inl (gI g, n, .inl f))) {i : Int32} (hin : vp_in i n) (hdg : decode cc pc = .ok (.iaload, 1))
    (kk : W p l e R s m args below meth c H locs cells slots Q (F0 m (pc + 1) ls (.int (f i.toNatClampNeg) :: rest))) : W p l e R s m args below meth c H locs cells slots Q (F0 m pc ls (.int i :: .ref a :: rest)) :=
  va_iald hf.1 hf.2.1 hk.1 hw.1 q0 0 ha rfl hin hdg kk
theorem ris (hf : CallFix p m c cc nL s args Ts own) (hk : kk g s) (hw : hv g A s H locs W0) (q0 : Nat) {n : Nat} {f : Nat → Int32} (ha : W0[q0]? = some (a, .inl (gI g, n, .inl f))) {i x : Int32} (hin : vp_in i n) (hdg : decode cc pc = .ok (.iastore, 1)) {W' : va_W} (hW' : W0.set q0 (a, .inl (gI g, n, .inl (upd f i.toNatClampNeg x))) = W')
    (kk : ∀ (H1 : Heap) (locs1 : List Loc), hv g A s H1 locs1 W' → W p l e R s m args below meth c H1 locs1 cells slots Q (F0 m (pc + 1) ls rest)) : W p l e R s m args below meth c H locs cells slots Q (F0 m pc ls (.int x :: .int i :: .ref a :: rest)) := by
  subst hW'
  exact va_iast hf.1 hf.2.1 hk.1 hw.1 hw.2.1 hw.2.2 q0 0 ha rfl hin hdg (fun H1 locs1 h1 h2 h3 => kk H1 locs1 ⟨h1, h2, h3⟩)
theorem ral (hf : CallFix p m c cc nL s args Ts own) (hk : kk g s) (hw : hv g A s H locs W0) (q0 : Nat) {x : vp_A} (ha : W0[q0]? = some (a, .inl (gI g, x))) {v : Int32} (hv0 : Int32.ofNat x.1 = v) (hdg : decode cc pc = .ok (.arraylength, 1))
    (kk : W p l e R s m args below meth c H locs cells slots Q (F0 m (pc + 1) ls (.int v :: rest))) : W p l e R s m args below meth c H locs cells slots Q (F0 m pc ls (.ref a :: rest)) :=
  va_alen hf.1 hf.2.1 hk.1 hw.1 q0 0 ha rfl hv0 hdg kk
/-! returns -/
theorem re_i {ws ws' : va_W} {v : Int32} {rv : Value} (hf : CallFix p m c cc nL s args Ts own) (hr : meth.sig.returnType = some .int) (hlk : meth.locks = false) (hw : hv g (va_I ws) s H locs W0) (hv0 : .int v = rv) (hWe : W0 = ws') (hdg : decode cc pc = .ok (.ireturn, 1)) :
    W p l e R s m args below meth c H locs cells slots (MQ below (mtQ g ws (some rv) ws') args s cells slots (va_I ws)) (F0 m pc ls [.int v]) := by
  subst hv0; subst hWe
  exact W.iret hf.1 hf.2.1 hr (fun t ht _ => ⟨rfl, by rw [ht]; exact hw.1, hw.2.2.F ht⟩) hw.2.2.2.2 hdg hlk
theorem re_z {ws ws' : va_W} {v : Int32} {rv : Value} (hf : CallFix p m c cc nL s args Ts own) (hr : meth.sig.returnType = some .boolean) (hlk : meth.locks = false) (hw : hv g (va_I ws) s H locs W0) (hn : narrow .boolean (.int v) = .int v) (hv0 : .int v = rv) (hWe : W0 = ws') (hdg : decode cc pc = .ok (.ireturn, 1)) :
    W p l e R s m args below meth c H locs cells slots (MQ below (mtQ g ws (some rv) ws') args s cells slots (va_I ws)) (F0 m pc ls [.int v]) := by
  subst hv0; subst hWe
  exact W.zret hf.1 hf.2.1 hr hn (fun t ht _ => ⟨rfl, by rw [ht]; exact hw.1, hw.2.2.F ht⟩) hw.2.2.2.2 hdg hlk
theorem re_l {ws ws' : va_W} {v : Int64} {rv : Value} (hf : CallFix p m c cc nL s args Ts own) (hr : meth.sig.returnType = some .long) (hlk : meth.locks = false) (hw : hv g (va_I ws) s H locs W0) (hv0 : .long v = rv) (hWe : W0 = ws') (hdg : decode cc pc = .ok (.lreturn, 1)) :
    W p l e R s m args below meth c H locs cells slots (MQ below (mtQ g ws (some rv) ws') args s cells slots (va_I ws)) (F0 m pc ls [.long v]) := by
  subst hv0; subst hWe
  exact W.lret hf.1 hf.2.1 hr (fun t ht _ => ⟨rfl, by rw [ht]; exact hw.1, hw.2.2.F ht⟩) hw.2.2.2.2 hdg hlk
theorem re_v {ws ws' : va_W} (hf : CallFix p m c cc nL s args Ts own) (hr : meth.sig.returnType = none) (hlk : meth.locks = false) (hw : hv g (va_I ws) s H locs W0) (hWe : W0 = ws') (hdg : decode cc pc = .ok (.return_, 1)) :
    W p l e R s m args below meth c H locs cells slots (MQ below (mtQ g ws none ws') args s cells slots (va_I ws)) (F0 m pc ls []) := by
  subst hWe
  exact W.vret hf.1 hf.2.1 hr (fun t ht _ => ⟨rfl, by rw [ht]; exact hw.1, hw.2.2.F ht⟩) hw.2.2.2.2 hdg hlk
theorem lv_tope {x y : Int32} (h : x = y) (k : W p l e R s m args below meth c H locs cells slots Q (F0 m pc ls (.int y :: rest))) : W p l e R s m args below meth c H locs cells slots Q (F0 m pc ls (.int x :: rest)) := by subst h; exact k
theorem lv_topel {x y : Int64} (h : x = y) (k : W p l e R s m args below meth c H locs cells slots Q (F0 m pc ls (.long y :: rest))) : W p l e R s m args below meth c H locs cells slots Q (F0 m pc ls (.long x :: rest)) := by subst h; exact k
/-- int[] read, its place a plain number -/
theorem rij (hf : CallFix p m c cc nL s args Ts own) (hk : kk g s) (hw : hv g A s H locs W0) (q0 : Nat) {n : Nat} {f : Nat → Int32} (ha : W0[q0]? = some (a, .inl (gI g, n, .inl f))) {i : Int32} {j : Nat} (hin : vp_in i n) (hj : i.toNatClampNeg = j) (hdg : decode cc pc = .ok (.iaload, 1))
    (kk : W p l e R s m args below meth c H locs cells slots Q (F0 m (pc + 1) ls (.int (f j) :: rest))) : W p l e R s m args below meth c H locs cells slots Q (F0 m pc ls (.int i :: .ref a :: rest)) := by
  subst hj; exact va_iald hf.1 hf.2.1 hk.1 hw.1 q0 0 ha rfl hin hdg kk
theorem rbj (hf : CallFix p m c cc nL s args Ts own) (hk : kk g s) (hw : hv g A s H locs W0) (q0 : Nat) {n : Nat} {f : Nat → Int32} (ha : W0[q0]? = some (a, .inl (gB g, n, .inl f))) {i : Int32} {j : Nat} (hin : vp_in i n) (hj : i.toNatClampNeg = j) (hdg : decode cc pc = .ok (.baload, 1))
    (kk : W p l e R s m args below meth c H locs cells slots Q (F0 m (pc + 1) ls (.int (f j) :: rest))) : W p l e R s m args below meth c H locs cells slots Q (F0 m pc ls (.int i :: .ref a :: rest)) := by
  subst hj; exact va_bald hf.1 hf.2.1 hk.1 hw.1 q0 1 ha rfl hin hdg kk
theorem rcj (hf : CallFix p m c cc nL s args Ts own) (hk : kk g s) (hw : hv g A s H locs W0) (q0 : Nat) {n : Nat} {f : Nat → Int32} (ha : W0[q0]? = some (a, .inl (gC g, n, .inl f))) {i : Int32} {j : Nat} (hin : vp_in i n) (hj : i.toNatClampNeg = j) (hdg : decode cc pc = .ok (.caload, 1))
    (kk : W p l e R s m args below meth c H locs cells slots Q (F0 m (pc + 1) ls (.int (f j) :: rest))) : W p l e R s m args below meth c H locs cells slots Q (F0 m pc ls (.int i :: .ref a :: rest)) := by
  subst hj; exact va_cald hf.1 hf.2.1 hk.1 hw.1 q0 2 ha rfl hin hdg kk
theorem rsj (hf : CallFix p m c cc nL s args Ts own) (hk : kk g s) (hw : hv g A s H locs W0) (q0 : Nat) {n : Nat} {f : Nat → Int32} (ha : W0[q0]? = some (a, .inl (gI g, n, .inl f))) {i x : Int32} {j : Nat} (hin : vp_in i n) (hj : i.toNatClampNeg = j) (hdg : decode cc pc = .ok (.iastore, 1)) {W' : va_W} (hW' : W0.set q0 (a, .inl (gI g, n, .inl (upd f j x))) = W')
    (kk : ∀ (H1 : Heap) (locs1 : List Loc), hv g A s H1 locs1 W' → W p l e R s m args below meth c H1 locs1 cells slots Q (F0 m (pc + 1) ls rest)) : W p l e R s m args below meth c H locs cells slots Q (F0 m pc ls (.int x :: .int i :: .ref a :: rest)) := by
  subst hj; exact ris hf hk hw q0 ha hin hdg hW' kk
theorem rkj (hf : CallFix p m c cc nL s args Ts own) (hk : kk g s) (hw : hv g A s H locs W0) (q0 : Nat) {n : Nat} {f : Nat → Option Nat} (ha : W0[q0]? = some (a, .inl (gK g, n, .inr (.inr (.inr (.inr f)))))) {i : Int32} {j : Nat} {r : Option Nat} (hin : vp_in i n) (hj : i.toNatClampNeg = j) (hr : f j = r) (hdg : decode cc pc = .ok (.aaload, 1))
    (kk : W p l e R s m args below meth c H locs cells slots Q (F0 m (pc + 1) ls (va_rf r :: rest))) : W p l e R s m args below meth c H locs cells slots Q (F0 m pc ls (.int i :: .ref a :: rest)) := by
  subst hj; subst hr; exact va_aldq hf.1 hf.2.1 hk.1 hw.1 q0 3 ha rfl hin hdg kk
theorem rqj (hf : CallFix p m c cc nL s args Ts own) (hk : kk g s) (hw : hv g A s H locs W0) (q0 : Nat) {n : Nat} {f : Nat → Option Nat} (ha : W0[q0]? = some (a, .inl (gT g, n, .inr (.inr (.inr (.inr f)))))) {i : Int32} {j : Nat} {r : Option Nat} (hin : vp_in i n) (hj : i.toNatClampNeg = j) (hr : f j = r) (hdg : decode cc pc = .ok (.aaload, 1))
    (kk : W p l e R s m args below meth c H locs cells slots Q (F0 m (pc + 1) ls (va_rf r :: rest))) : W p l e R s m args below meth c H locs cells slots Q (F0 m pc ls (.int i :: .ref a :: rest)) := by
  subst hj; subst hr; exact va_aldq hf.1 hf.2.1 hk.1 hw.1 q0 4 ha rfl hin hdg kk
theorem rmmax (hexec : p.tables.exec = Jvm.exec) (hb : c.code = cc) (hml : c.maxLocals = ls.size) {own : String} {index : Nat} (hown : s.vm.findClass own = some m.cls) (hlink : (Cond.methodLink own index Lib.Math.max.name).before args s = true) (hstat : (Cond.static Lib.Math.max.name).before args s = true) (hini : (Cond.initialized "java/lang/Math").before args s = true) (hcode : (Cond.code Lib.Math.max.name Lib.Math.max.code 2 (some .int)).before args s = true)
    (hframes : 1 ≤ R.frames) (hlocals : (rest.map fun v => v.category).sum + 13 ≤ R.locals) (hc : cells ≤ R.cells) (hs : slots ≤ R.slots) {x y : Int32} (hdg : decode cc pc = .ok (.invokestatic index, 3))
    (kk : W p l e R s m args below meth c H locs cells slots Q (F0 m (pc + 3) ls (.int (mmax32 x y) :: rest))) : W p l e R s m args below meth c H locs cells slots Q (F0 m pc ls (.int y :: .int x :: rest)) :=
  va_mmax hexec hb hml hown hlink hstat hini hcode hframes hlocals hc hs hdg kk
theorem rmmin (hexec : p.tables.exec = Jvm.exec) (hb : c.code = cc) (hml : c.maxLocals = ls.size) {own : String} {index : Nat} (hown : s.vm.findClass own = some m.cls) (hlink : (Cond.methodLink own index Lib.Math.min.name).before args s = true) (hstat : (Cond.static Lib.Math.min.name).before args s = true) (hini : (Cond.initialized "java/lang/Math").before args s = true) (hcode : (Cond.code Lib.Math.min.name Lib.Math.min.code 2 (some .int)).before args s = true)
    (hframes : 1 ≤ R.frames) (hlocals : (rest.map fun v => v.category).sum + 13 ≤ R.locals) (hc : cells ≤ R.cells) (hs : slots ≤ R.slots) {x y : Int32} (hdg : decode cc pc = .ok (.invokestatic index, 3))
    (kk : W p l e R s m args below meth c H locs cells slots Q (F0 m (pc + 3) ls (.int (mmin32 x y) :: rest))) : W p l e R s m args below meth c H locs cells slots Q (F0 m pc ls (.int y :: .int x :: rest)) :=
  va_mmin hexec hb hml hown hlink hstat hini hcode hframes hlocals hc hs hdg kk
end CORE
theorem sw_out {x : Int32} (lo : Int) (vs : List Int32) (hi : Int := lo + vs.length - 1) (h0 : (-2147483648 : Int) ≤ lo) (hv : vs.map Int32.toInt = (List.range vs.length).map (fun (j : Nat) => lo + (j : Int))) (h : x ∉ vs) : x.toInt < lo ∨ lo + vs.length - 1 < x.toInt := by
  by_cases h1 : x.toInt < lo
  · exact Or.inl h1
  · by_cases h2 : lo + vs.length - 1 < x.toInt
    · exact Or.inr h2
    · exfalso
      apply h
      have hj : (x.toInt - lo).toNat < vs.length := by omega
      have h3 : (vs.map Int32.toInt)[(x.toInt - lo).toNat]? = some x.toInt := by
        rw [hv, List.getElem?_map, List.getElem?_range hj]
        simp only [Option.map_some, Option.some.injEq]
        omega
      rw [List.getElem?_map] at h3
      cases h4 : vs[(x.toInt - lo).toNat]? with
      | none => rw [h4] at h3; cases h3
      | some z =>
        rw [h4] at h3
        have hz : z.toInt = x.toInt := Option.some.inj h3
        have hzx : z = x := Int32.toInt_inj.mp hz
        rw [← hzx]
        exact List.mem_of_getElem? h4
