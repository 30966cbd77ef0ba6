section CORE6
variable {p : Program} {l : Launch} {e : Env} {R : Room} {s : State} {m : MethodId} {args : Array Value} {below : List Frame} {meth : Method} {c : Code} {H : Heap} {locs : List Loc} {cells slots : Nat} {Q : State → Prop}
variable {cc : ByteArray} {nL pc : Nat} {Ts : List Cond} {own : String} {ls : Array Slot} {rest st0 : List Value} {g : GG} {A : Nat → Prop} {W0 : va_W} {a : Nat}
theorem re_t {ws ws' : va_W} {v : Int32} {rv : Value} {ty : FieldType} (hf : CallFix p m c cc nL s args Ts own) (hr : meth.sig.returnType = some ty) (hlk : meth.locks = false) (hw : hv g (va_I ws) s H locs W0) (hn : narrow ty (.int v) = .int v) (hv0 : .int v = rv) (hWe : W0 = ws') (hdg : decode cc pc = .ok (.ireturn, 1)) :
    W p l e R s m args below meth c H locs cells slots (MQ below (mtQ g ws (some rv) ws') args s cells slots (va_I ws)) (F0 m pc ls [.int v]) := by
  subst hv0; subst hWe
  exact W.zret hf.1 hf.2.1 hr hn (fun t ht _ => ⟨rfl, by rw [ht]; exact hw.1, hw.2.2.F ht⟩) hw.2.2.2.2 hdg hlk
/-- a call on a text -/
theorem mcT {ws ws' W' : va_W} {rv : Option Value} {y : MethodName} {cw : List Cond} {rm : Room} {As : List Value} {wi index n maxL : Nat} {bytes : ByteArray} {ret : Option FieldType}
    (hf : CallFix p m c cc nL s args Ts own) (hk : kk g s) (hst : sta g A s s.heap) (hw : hv g A s H locs W0) (hM : mt l g y cw rm (.ref (gA g wi) :: As) ws rv ws') (cwd : CallW R s args own RJ0 index y bytes maxL ret cw rm 0 0 n) (hw15 : wi < 15) (is : List Nat) (hC : is.map (fun i => W0[i]?) = ws.map some) (hn : va_nd is = true) (hlen : As.length = n) (hls : ls.size = nL) (hstk : st0 = As.reverse ++ .ref (gA g wi) :: rest) (hroom : (rest.map fun v => v.category).sum ≤ 8) (hdg : decode cc pc = .ok (.invokevirtual index, 3)) (hcs : cells ≤ R.cells ∧ slots ≤ R.slots) (hW' : mrep W0 is ws' = W')
    (kk : ∀ (H1 : Heap) (locs1 : List Loc), hv g A s H1 locs1 W' → W p l e R s m args below meth c H1 locs1 cells slots Q (F0 m (pc + 3) ls (rv.toList ++ rest))) : W p l e R s m args below meth c H locs cells slots Q (F0 m pc ls st0) :=
  mgo (va_runV hf hM.2 cwd ⟨mtP.blind g _ ws, vk_recv hst.2.2.2.2.1 hw15 hw.2.2, mpre hk hst hw is hC hn⟩ rfl hlen hls hstk (lv_room hroom) hdg hcs) hw is hC hM.1 hW' kk
end CORE6
abbrev rmJ0_coder_7d493 : Room := { frames := 0, cells := 0, slots := 0, locals := 0 }
set_option maxHeartbeats 4000000 in
set_option maxRecDepth 100000 in
theorem c_J0_coder_7d493 (l : Launch) (g : GG) (wi : Nat) (hw15 : wi < 15) : mt l g yJ0_coder_7d493 wsJ0_coder_7d493 rmJ0_coder_7d493 [.ref (gA g wi)] [] (some (.int 0)) [] := by
  refine mt.of (cc := cJ0_coder_7d493) (nL := 1) (ret := (some .byte)) (own := RJ0) (by decide +kernel) rfl rfl (show ([] : List Nat) = [] from rfl) (Nat.le_of_ble_eq_true rfl) (fun p e s m below meth c hf hr hlk _ hk hst hw ls hl => ?_)
  have hx := hf.1
  have hb := hf.2.1
  have hts := hf.2.2.2.2
  have hl : lv_has ls 1 [(0, .ref (gA g wi))] := hl
  have w_0 : Cond.fieldLink RJ0 38 "java/lang/String" "COMPACT_STRINGS" "Z" ∈ wsJ0_coder_7d493 := List.mem_of_getElem? (i := 1) rfl
  have w_1 : Cond.fieldLink RJ0 15 "java/lang/String" "coder" "B" ∈ wsJ0_coder_7d493 := List.mem_of_getElem? (i := 2) rfl
  refine va_gets hx hb hst.2.2.2.1 hw.2.2 hf.2.2.2.1 (hts _ w_0) (fun _ h => h) dJ0_coder_7d493_0 ?_
  refine lv_if_eq (tgt := 13) hx hb dJ0_coder_7d493_3 (by decide) (fun q => absurd q (by decide)) (fun _ => ?_)
  refine lv_aload_n hx hb dJ0_coder_7d493_6 rfl (lv_at hl 0 rfl) ?_
  refine vk_getf hx hb ((hst.2.2.2.2.1).1 wi hw15).2.1 hw.2.2 hf.2.2.2.1 (hts _ w_1) (fun _ h => h) dJ0_coder_7d493_7 ?_
  refine lv_goto (tgt := 14) hx hb dJ0_coder_7d493_10 (by decide) ?_
  exact re_t hf hr hlk hw (rfl) (rfl) (rfl) dJ0_coder_7d493_14
abbrev rmJ0_isLatin1_aae02 : Room := { frames := 0, cells := 0, slots := 0, locals := 0 }
set_option maxHeartbeats 4000000 in
set_option maxRecDepth 100000 in
theorem c_J0_isLatin1_aae02 (l : Launch) (g : GG) (wi : Nat) (hw15 : wi < 15) : mt l g yJ0_isLatin1_aae02 wsJ0_isLatin1_aae02 rmJ0_isLatin1_aae02 [.ref (gA g wi)] [] (some (.int 1)) [] := by
  refine mt.of (cc := cJ0_isLatin1_aae02) (nL := 1) (ret := (some .boolean)) (own := RJ0) (by decide +kernel) rfl rfl (show ([] : List Nat) = [] from rfl) (Nat.le_of_ble_eq_true rfl) (fun p e s m below meth c hf hr hlk _ hk hst hw ls hl => ?_)
  have hx := hf.1
  have hb := hf.2.1
  have hts := hf.2.2.2.2
  have hl : lv_has ls 1 [(0, .ref (gA g wi))] := hl
  have w_0 : Cond.fieldLink RJ0 38 "java/lang/String" "COMPACT_STRINGS" "Z" ∈ wsJ0_isLatin1_aae02 := List.mem_of_getElem? (i := 1) rfl
  have w_1 : Cond.fieldLink RJ0 15 "java/lang/String" "coder" "B" ∈ wsJ0_isLatin1_aae02 := List.mem_of_getElem? (i := 2) rfl
  refine va_gets hx hb hst.2.2.2.1 hw.2.2 hf.2.2.2.1 (hts _ w_0) (fun _ h => h) dJ0_isLatin1_aae02_0 ?_
  refine lv_if_eq (tgt := 17) hx hb dJ0_isLatin1_aae02_3 (by decide) (fun q => absurd q (by decide)) (fun _ => ?_)
  refine lv_aload_n hx hb dJ0_isLatin1_aae02_6 rfl (lv_at hl 0 rfl) ?_
  refine vk_getf hx hb ((hst.2.2.2.2.1).1 wi hw15).2.1 hw.2.2 hf.2.2.2.1 (hts _ w_1) (fun _ h => h) dJ0_isLatin1_aae02_7 ?_
  refine lv_if_ne (tgt := 17) hx hb dJ0_isLatin1_aae02_10 (by decide) (fun q => absurd (by decide) q) (fun _ => ?_)
  refine lv_iconst (v := 1) hx hb dJ0_isLatin1_aae02_13 (by decide) ?_
  refine lv_goto (tgt := 18) hx hb dJ0_isLatin1_aae02_14 (by decide) ?_
  exact re_z hf hr hlk hw (rfl) (rfl) (rfl) dJ0_isLatin1_aae02_18
theorem shr0 (n : Nat) : nI n >>> ((0 : Int32) &&& 31) = nI n := by
  show nI n >>> (0 : Int32) = nI n
  apply Int32.toBitVec_inj.1
  simp
theorem hdV_J0_coder_7d493 : yJ0_coder_7d493.cls = RJ0 ∧ yJ0_coder_7d493.cls ≠ "java/lang/invoke/MethodHandle" ∧ yJ0_coder_7d493.cls ≠ "java/lang/invoke/VarHandle" ∧ (parseMethodDescriptor yJ0_coder_7d493.desc).map (fun d => d.parameters.length) = some 0 := by decide +kernel
abbrev rmJ0_length_8abf5 : Room := { frames := 1, cells := 0, slots := 0, locals := 20 }
set_option maxHeartbeats 4000000 in
set_option maxRecDepth 100000 in
theorem c_J0_length_8abf5 (l : Launch) (g : GG) (wi : Nat) (hw15 : wi < 15) : mt l g yJ0_length_8abf5 wsJ0_length_8abf5 rmJ0_length_8abf5 [.ref (gA g wi)] [] (some (.int (nI (tq_len.getD wi 0)))) [] := by
  refine mt.of (cc := cJ0_length_8abf5) (nL := 1) (ret := (some .int)) (own := RJ0) (by decide +kernel) rfl rfl (show ([] : List Nat) = [] from rfl) (Nat.le_of_ble_eq_true rfl) (fun p e s m below meth c hf hr hlk _ hk hst hw ls hl => ?_)
  have hx := hf.1
  have hb := hf.2.1
  have hts := hf.2.2.2.2
  have hl : lv_has ls 1 [(0, .ref (gA g wi))] := hl
  have w_0 : Cond.fieldLink RJ0 9 "java/lang/String" "value" "[B" ∈ wsJ0_length_8abf5 := List.mem_of_getElem? (i := 1) rfl
  refine lv_aload_n hx hb dJ0_length_8abf5_0 rfl (lv_at hl 0 rfl) ?_
  refine vk_getf hx hb ((hst.2.2.2.2.1).1 wi hw15).2.2.1 hw.2.2 hf.2.2.2.1 (hts _ w_0) (fun _ h => h) dJ0_length_8abf5_1 ?_
  refine va_tlen hx hb ((hst.2.2.2.2.1).1 wi hw15).2.2.2 hw.2.2 (v := nI (tq_len.getD wi 0)) rfl dJ0_length_8abf5_4 ?_
  refine lv_aload_n hx hb dJ0_length_8abf5_5 rfl (lv_at hl 0 rfl) ?_
  refine mcT hf hk hst hw (c_J0_coder_7d493 l g wi (hw15)) (cwV 0 hts gJ0_length_8abf5_J0_coder_7d493 rfl rfl rfl hdV_J0_coder_7d493 ⟨Nat.le_of_ble_eq_true rfl, Nat.le_of_ble_eq_true rfl⟩) hw15 [] rfl rfl rfl hl.1 rfl (Nat.le_of_ble_eq_true rfl) dJ0_length_8abf5_6 ⟨Nat.zero_le _, Nat.zero_le _⟩ (W' := []) rfl (fun H locs hw => ?_)
  refine lv_ishr hx hb dJ0_length_8abf5_9 ?_
  refine lv_tope (y := nI (tq_len.getD wi 0)) (shr0 _) ?_
  exact re_i hf hr hlk hw (rfl) (rfl) dJ0_length_8abf5_10
