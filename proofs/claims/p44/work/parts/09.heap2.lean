section HOPS2
variable {I : EVT} {M : MI} {C : List (Nat × OP)} {pc : Nat}
/-- a soil's field -/
theorem o_sof {j idx : Nat} (hj : j < 5) (hl : LinkW M.1.cls idx "LysimeterField$Soil" (soN j) "I") (hd : decode M.2.1 pc = .ok (.getfield idx, 3)) : OpS I M C pc (pc + 3) (i_sof j) := by
  refine OpS.br I (j := 0) rfl fun cf jmp nxt lo sk α nx k n res h => ?_
  obtain ⟨a, r, rfl, h1⟩ := pR_some h
  obtain ⟨g1, h2⟩ := gB_some h1
  obtain ⟨g2, h3⟩ := gB_some h2
  refine ⟨false, _, h3, fun p l e R s m args below meth c Q G H locs ls cells slots ad rst hC hE hS hH hr => ?_⟩
  obtain ⟨w, us, rfl, ⟨x, hx, rfl⟩, hr⟩ := hr
  have z1 : 1000000 ≤ a := Nat.le_of_ble_eq_true g1
  have z2 : a < 1000003 := Nat.le_of_ble_eq_true g2
  unfold lk at hx
  rw [if_neg (by omega), if_pos (by omega)] at hx
  cases hx
  refine ⟨_, ⟨_, us, rfl, rfl, hr⟩, fun kk => ?_⟩
  obtain ⟨c1, c2, c3, c4, c5, c6, c7, c8, c9, c10⟩ := hC
  obtain ⟨s1, s2, s3, s4, s5, s6, s7, s8, s9, s10, s11, s12⟩ := hE
  rcases hl with hl | ⟨host, hl⟩
  · exact va_getX (i := a - 1000000) c1 c2 (s9 j hj) (by omega) hS c5 (c6 _ hl) (fun _ z => z) hd kk
  · obtain ⟨cf, k9, fi, f, cell, g1, g2, g3, g4, g5, g6⟩ := (s9 j hj (a - 1000000) (by omega)).kept hS.2.1
    exact va_Wgetf c1 c2 c5 (s2.use hl) g1 g2 g3 g4 (v := .int (soV j (a - 1000000))) g5 rfl rfl hd kk
/-- a static that holds one of the four -/
theorem o_gets {i idx : Nat} (hi : i < 4) (hl : Cond.fieldLink M.1.cls idx (stC i) (stN i) (stD i) ∈ lw_all) (hd : decode M.2.1 pc = .ok (.getstatic idx, 3)) : OpS I M C pc (pc + 3) (i_gets i) := by
  refine OpS.br I (j := 0) rfl fun cf jmp nxt lo sk α nx k n res h => ?_
  refine ⟨false, _, h, fun p l e R s m args below meth c Q G H locs ls cells slots ad rst hC hE hS hH hr => ?_⟩
  refine ⟨.ref (gs G i) :: rst, ⟨_, rst, rfl, ⟨gs G i, ?_, rfl⟩, hr⟩, fun kk => ?_⟩
  · unfold lk
    rw [if_neg (by omega), if_pos (by omega), Nat.add_sub_cancel_left]
  obtain ⟨c1, c2, c3, c4, c5, c6, c7, c8, c9, c10⟩ := hC
  obtain ⟨s1, s2, s3, s4, s5, s6, s7, s8, s9, s10, s11, s12⟩ := hE
  exact va_gets c1 c2 (s7 i hi) hS c5 (c6 _ hl) (fun _ z => z) hd kk
theorem RVs.flat {ad : List Nat} {sp : Nat → Nat} : ∀ {vs : List Value}, (∀ v ∈ vs, RV ad sp v v) → RVs ad sp vs vs
  | [], _ => rfl
  | v :: vs, h => ⟨v, vs, rfl, h v List.mem_cons_self, RVs.flat (fun u hu => h u (List.mem_cons_of_mem _ hu))⟩
/-- no reference among them -/
def noR (vs : List Value) : Bool := vs.all (fun v => match v with | .ref _ => false | _ => true)
theorem noR_flat {ad : List Nat} {sp : Nat → Nat} {vs : List Value} (h : noR vs = true) : RVs ad sp vs vs := RVs.flat (fun v hv => by
  have := List.all_eq_true.mp h v hv
  cases v <;> first | rfl | cases this)
theorem oa_up {G : GP} {s : State} (h : gb G ≤ s.heap.size) : ∀ q : Nat, s.heap.size ≤ q → OA (gb G) q := fun _ z => Nat.le_trans h z
theorem o_new {ci idx N : Nat} {K : String} {T : u_T} {ty : Nat → FieldType} {fs : List Value} (hc : ClsF ci K T N ty) (hfs : ∀ j, j < N → defaultValue (ty j) = vp_V fs j) (hr0 : noR fs = true) (hcl : Cond.classLink M.1.cls idx K ∈ lw_all) (hin : Cond.instantiable K N ∈ lw_all) (hini : Cond.initialized K ∈ lw_all) (hd : decode M.2.1 pc = .ok (.new idx, 3)) : OpS I M C pc (pc + 3) (i_new ci fs N) := by
  refine OpS.al I fun cf jmp nxt lo sk α nx k n res h => ?_
  obtain ⟨g1, h1⟩ := gB_some h
  obtain ⟨α', ha, h2⟩ := oG_some h1
  refine ⟨sk, α', (ci, fs), N, Nat.le_of_ble_eq_true g1, ha, h2, fun p l e R s m args below meth c Q G H locs ls ad rst ws hC hE hS hP hD hr hk hn => ⟨rst, hr, fun kk => ?_⟩⟩
  obtain ⟨c1, c2, c3, c4, c5, c6, c7, c8, c9, c10⟩ := hC
  obtain ⟨s1, s2, s3, s4, s5, s6, s7, s8, s9, s10, s11, s12⟩ := hE
  exact va_new c1 c2 c6 hc.2.2.1 ty hc.2.2.2.1 c5 (c6 _ hcl) (c6 _ hin) (c6 _ hini) s1 hP hD hS (oa_up s11) hc.2.1 hfs hk hn hd (fun q H1 p1 p2 p3 => kk q _ H1 p3 p1 p2 (Or.inl ⟨hc.1, fs, rfl, noR_flat hr0⟩))
theorem ra_int {G : GP} {s : State} {cA : ClassId} (h : va_K (gD G) vwCl ([((gc G).1, .int), ((gc G).2.1, .long), ((gc G).2.2, .object "java/lang/Object")] ++ [(cA, .int)]) s) : cA = (gc G).1 := by
  have h1 := va_nm_int (h.2 0 _ rfl).2
  have h2 := va_nm_int (h.2 3 _ rfl).2
  exact Option.some.inj (h2.symm.trans h1)
theorem ra_long {G : GP} {s : State} {cA : ClassId} (h : va_K (gD G) vwCl ([((gc G).1, .int), ((gc G).2.1, .long), ((gc G).2.2, .object "java/lang/Object")] ++ [(cA, .long)]) s) : cA = (gc G).2.1 := by
  have h1 := va_nm_long (h.2 1 _ rfl).2
  have h2 := va_nm_long (h.2 3 _ rfl).2
  exact Option.some.inj (h2.symm.trans h1)
theorem ra_obj {G : GP} {s : State} {cA : ClassId} (h : va_K (gD G) vwCl ([((gc G).1, .int), ((gc G).2.1, .long), ((gc G).2.2, .object "java/lang/Object")] ++ [(cA, .object "java/lang/Object")]) s) : cA = (gc G).2.2 := by
  obtain ⟨_, _, _, _, _, h1⟩ := (h.2 2 _ rfl).2
  obtain ⟨_, _, _, _, _, h2⟩ := (h.2 3 _ rfl).2
  exact Option.some.inj (h2.symm.trans h1)
theorem rep_at {x v : Value} {N j : Nat} (h : (List.replicate N x)[j]? = some v) : v = x := List.eq_of_mem_replicate (List.mem_of_getElem? h)
theorem o_newi (hw : Cond.arrayClass .int ∈ lw_all) (hd : decode M.2.1 pc = .ok (.newarray .int, 2)) : OpS I M C pc (pc + 2) (i_newa 100 (.int 0)) := by
  refine OpS.al I fun cf jmp nxt lo sk α nx k n res h => ?_
  obtain ⟨x, r, rfl, h0⟩ := pI_some h
  obtain ⟨g0, h1⟩ := gB_some h0
  obtain ⟨g1, h2⟩ := gB_some h1
  obtain ⟨g2, h3⟩ := gB_some h2
  obtain ⟨α', ha, h4⟩ := oG_some h3
  refine ⟨r, α', _, x.toNatClampNeg, Nat.le_of_ble_eq_true g2, ha, h4, fun p l e R s m args below meth c Q G H locs ls ad rst ws hC hE hS hP hD hr hk hn => ?_⟩
  obtain ⟨_, us, rfl, rfl, hr⟩ := hr
  refine ⟨us, hr, fun kk => ?_⟩
  obtain ⟨c1, c2, c3, c4, c5, c6, c7, c8, c9, c10⟩ := hC
  obtain ⟨s1, s2, s3, s4, s5, s6, s7, s8, s9, s10, s11, s12⟩ := hE
  have z1 : x.toNatClampNeg ≤ 1000 := Nat.le_of_ble_eq_true g1
  refine va_newa (atype := .int) (ty := .int) (a0 := (x.toNatClampNeg, .inl (fun _ => 0))) c1 c2 (c6 _ hw) rfl s1 hP hD hS (oa_up s11) (fun cA => rfl) (fun z => absurd (ltI_iff.mpr z) (by rw [bnot g0]; decide)) rfl (by show x.toNatClampNeg * 4 ≤ _; omega) hk hn hd (fun q cA H1 p0 p1 p2 p3 => ?_)
  have e1 := ra_int p0
  subst e1
  exact kk q _ H1 p3 p1 p2 (Or.inr (Or.inl ⟨rfl, fun _ => 0, by rw [List.length_replicate], fun j v hv => rep_at hv⟩))
theorem o_newl (hw : Cond.arrayClass .long ∈ lw_all) (hd : decode M.2.1 pc = .ok (.newarray .long, 2)) : OpS I M C pc (pc + 2) (i_newa 101 (.long 0)) := by
  refine OpS.al I fun cf jmp nxt lo sk α nx k n res h => ?_
  obtain ⟨x, r, rfl, h0⟩ := pI_some h
  obtain ⟨g0, h1⟩ := gB_some h0
  obtain ⟨g1, h2⟩ := gB_some h1
  obtain ⟨g2, h3⟩ := gB_some h2
  obtain ⟨α', ha, h4⟩ := oG_some h3
  refine ⟨r, α', _, x.toNatClampNeg, Nat.le_of_ble_eq_true g2, ha, h4, fun p l e R s m args below meth c Q G H locs ls ad rst ws hC hE hS hP hD hr hk hn => ?_⟩
  obtain ⟨_, us, rfl, rfl, hr⟩ := hr
  refine ⟨us, hr, fun kk => ?_⟩
  obtain ⟨c1, c2, c3, c4, c5, c6, c7, c8, c9, c10⟩ := hC
  obtain ⟨s1, s2, s3, s4, s5, s6, s7, s8, s9, s10, s11, s12⟩ := hE
  have z1 : x.toNatClampNeg ≤ 1000 := Nat.le_of_ble_eq_true g1
  refine va_newa (atype := .long) (ty := .long) (a0 := (x.toNatClampNeg, .inr (.inl (fun _ => 0)))) c1 c2 (c6 _ hw) rfl s1 hP hD hS (oa_up s11) (fun cA => rfl) (fun z => absurd (ltI_iff.mpr z) (by rw [bnot g0]; decide)) rfl (by show x.toNatClampNeg * 8 ≤ _; omega) hk hn hd (fun q cA H1 p0 p1 p2 p3 => ?_)
  have e1 := ra_long p0
  subst e1
  exact kk q _ H1 p3 p1 p2 (Or.inr (Or.inr (Or.inl ⟨rfl, fun _ => 0, by rw [List.length_replicate], fun j v hv => rep_at hv⟩)))
theorem o_newr {idx : Nat} (hw : Cond.classLink M.1.cls idx "java/lang/Object" ∈ lw_all) (hd : decode M.2.1 pc = .ok (.anewarray idx, 3)) : OpS I M C pc (pc + 3) (i_newa 102 .null) := by
  refine OpS.al I fun cf jmp nxt lo sk α nx k n res h => ?_
  obtain ⟨x, r, rfl, h0⟩ := pI_some h
  obtain ⟨g0, h1⟩ := gB_some h0
  obtain ⟨g1, h2⟩ := gB_some h1
  obtain ⟨g2, h3⟩ := gB_some h2
  obtain ⟨α', ha, h4⟩ := oG_some h3
  refine ⟨r, α', _, x.toNatClampNeg, Nat.le_of_ble_eq_true g2, ha, h4, fun p l e R s m args below meth c Q G H locs ls ad rst ws hC hE hS hP hD hr hk hn => ?_⟩
  obtain ⟨_, us, rfl, rfl, hr⟩ := hr
  refine ⟨us, hr, fun kk => ?_⟩
  obtain ⟨c1, c2, c3, c4, c5, c6, c7, c8, c9, c10⟩ := hC
  obtain ⟨s1, s2, s3, s4, s5, s6, s7, s8, s9, s10, s11, s12⟩ := hE
  have z1 : x.toNatClampNeg ≤ 1000 := Nat.le_of_ble_eq_true g1
  refine va_newq c1 c2 c5 (c6 _ hw) s4 s1 hP hD hS (oa_up s11) (fun z => absurd (ltI_iff.mpr z) (by rw [bnot g0]; decide)) rfl (by omega) hk hn hd (fun q cA H1 p0 p1 p2 p3 => ?_)
  have e1 := ra_obj p0
  subst e1
  exact kk q _ H1 p3 p1 p2 (Or.inr (Or.inr (Or.inr ⟨rfl, fun _ => none, by rw [List.length_replicate], fun j v hv => by rw [rep_at hv]; rfl⟩)))
theorem RE.ints {ad : List Nat} {sp : Nat → Nat} {c3 : C3} {c : AC} {e : va_E} (h : RE ad sp c3 c e) (hc : c.1 = 100) : ∃ f : Nat → Int32, e = .inl (c3.1, c.2.length, .inl f) ∧ ∀ (j : Nat) (v : Value), c.2[j]? = some v → v = .int (f j) := by
  rcases h with ⟨h, -⟩ | ⟨-, h⟩ | ⟨h, -⟩ | ⟨h, -⟩
  · omega
  · exact h
  · omega
  · omega
theorem RE.longs {ad : List Nat} {sp : Nat → Nat} {c3 : C3} {c : AC} {e : va_E} (h : RE ad sp c3 c e) (hc : c.1 = 101) : ∃ f : Nat → Int64, e = .inl (c3.2.1, c.2.length, .inr (.inl f)) ∧ ∀ (j : Nat) (v : Value), c.2[j]? = some v → v = .long (f j) := by
  rcases h with ⟨h, -⟩ | ⟨h, -⟩ | ⟨-, h⟩ | ⟨h, -⟩
  · omega
  · omega
  · exact h
  · omega
theorem RE.refs {ad : List Nat} {sp : Nat → Nat} {c3 : C3} {c : AC} {e : va_E} (h : RE ad sp c3 c e) (hc : c.1 = 102) : ∃ f : Nat → Option Nat, e = .inl (c3.2.2, c.2.length, .inr (.inr (.inr (.inr f)))) ∧ ∀ (j : Nat) (v : Value), c.2[j]? = some v → RV ad sp v (va_rf (f j)) := by
  rcases h with ⟨h, -⟩ | ⟨h, -⟩ | ⟨h, -⟩ | ⟨-, h⟩
  · omega
  · omega
  · omega
  · exact h
theorem o_alen (hd : decode M.2.1 pc = .ok (.arraylength, 1)) : OpS I M C pc (pc + 1) i_alen := by
  refine OpS.br I (j := 0) rfl fun cf jmp nxt lo sk α nx k n res h => ?_
  obtain ⟨a, r, rfl, h1⟩ := pR_some h
  cases hz : Nat.beq a 1000003 with
  | true =>
    rw [hz] at h1
    refine ⟨false, _, h1, fun p l e R s m args below meth c Q G H locs ls cells slots ad rst hC hE hS hH hr => ?_⟩
    obtain ⟨w, us, rfl, ⟨x, hx, rfl⟩, hr⟩ := hr
    have ha := Nat.eq_of_beq_eq_true hz
    subst ha
    have hx : some (gs G 3) = some x := hx
    cases hx
    refine ⟨_, ⟨_, us, rfl, rfl, hr⟩, fun kk => ?_⟩
    obtain ⟨s1, s2, s3, s4, s5, s6, s7, s8, s9, s10, s11, s12⟩ := hE
    exact va_tlen hC.1 hC.2.1 s8 hS rfl hd kk
  | false =>
    rw [hz] at h1
    obtain ⟨cell, hg, h2⟩ := oG_some h1
    obtain ⟨g1, h3⟩ := gB_some h2
    obtain ⟨g2, h4⟩ := gB_some h3
    have z1 : 100 ≤ cell.1 := Nat.le_of_ble_eq_true g1
    have z2 : cell.1 ≤ 102 := Nat.le_of_ble_eq_true g2
    refine ⟨false, _, h4, fun p l e R s m args below meth c Q G H locs ls cells slots ad rst hC hE hS hH hr => ?_⟩
    obtain ⟨w, us, rfl, hw, hr⟩ := hr
    obtain ⟨ws, x, en, rfl, hlt, b1, b2, b3, b4, b5, b6⟩ := hH.at hg (by omega) hw
    refine ⟨_, ⟨_, us, rfl, rfl, hr⟩, fun kk => ?_⟩
    rcases (show cell.1 = 100 ∨ cell.1 = 101 ∨ cell.1 = 102 by omega) with hc | hc | hc
    · obtain ⟨f, rfl, -⟩ := b5.ints hc
      exact va_alen hC.1 hC.2.1 hE.1 b2 a 0 b4 rfl rfl hd kk
    · obtain ⟨f, rfl, -⟩ := b5.longs hc
      exact va_alen hC.1 hC.2.1 hE.1 b2 a 1 b4 rfl rfl hd kk
    · obtain ⟨f, rfl, -⟩ := b5.refs hc
      exact va_alen hC.1 hC.2.1 hE.1 b2 a 2 b4 rfl rfl hd kk
theorem in_of {i : Int32} {l : List Value} {v : Value} (h : bB (ltI i 0) false true = true) (hv : l[i.toNatClampNeg]? = some v) : vp_in i l.length := by
  rintro (z | z)
  · have := ltI_iff.mpr z
    rw [bnot h] at this
    cases this
  · have := (List.getElem?_eq_some_iff.mp hv).1
    omega
theorem o_iald (hd : decode M.2.1 pc = .ok (.iaload, 1)) : OpS I M C pc (pc + 1) (i_ald 100) := by
  refine OpS.br I (j := 0) rfl fun cf jmp nxt lo sk α nx k n res h => ?_
  obtain ⟨i, r, rfl, h1⟩ := pI_some h
  obtain ⟨a, r, rfl, h2⟩ := pR_some h1
  obtain ⟨cell, hg, h3⟩ := oG_some h2
  obtain ⟨ht, h4⟩ := gB_some h3
  obtain ⟨hi, h5⟩ := gB_some h4
  obtain ⟨v, hv, h6⟩ := oG_some h5
  rw [nth_eq] at hv
  refine ⟨false, _, h6, fun p l e R s m args below meth c Q G H locs ls cells slots ad rst hC hE hS hH hr => ?_⟩
  obtain ⟨_, us, rfl, rfl, w, us, rfl, hw, hr⟩ := hr
  obtain ⟨ws, x, en, rfl, hlt, b1, b2, b3, b4, b5, b6⟩ := hH.at hg (not200 ht (by decide)) hw
  obtain ⟨f, rfl, hf⟩ := b5.ints (Nat.eq_of_beq_eq_true ht)
  have e1 := hf _ _ hv
  subst e1
  exact ⟨_, ⟨_, us, rfl, rfl, hr⟩, fun kk => va_iald hC.1 hC.2.1 hE.1 b2 a 0 b4 rfl (in_of hi hv) hd kk⟩
theorem o_lald (hd : decode M.2.1 pc = .ok (.laload, 1)) : OpS I M C pc (pc + 1) (i_ald 101) := by
  refine OpS.br I (j := 0) rfl fun cf jmp nxt lo sk α nx k n res h => ?_
  obtain ⟨i, r, rfl, h1⟩ := pI_some h
  obtain ⟨a, r, rfl, h2⟩ := pR_some h1
  obtain ⟨cell, hg, h3⟩ := oG_some h2
  obtain ⟨ht, h4⟩ := gB_some h3
  obtain ⟨hi, h5⟩ := gB_some h4
  obtain ⟨v, hv, h6⟩ := oG_some h5
  rw [nth_eq] at hv
  refine ⟨false, _, h6, fun p l e R s m args below meth c Q G H locs ls cells slots ad rst hC hE hS hH hr => ?_⟩
  obtain ⟨_, us, rfl, rfl, w, us, rfl, hw, hr⟩ := hr
  obtain ⟨ws, x, en, rfl, hlt, b1, b2, b3, b4, b5, b6⟩ := hH.at hg (not200 ht (by decide)) hw
  obtain ⟨f, rfl, hf⟩ := b5.longs (Nat.eq_of_beq_eq_true ht)
  have e1 := hf _ _ hv
  subst e1
  exact ⟨_, ⟨_, us, rfl, rfl, hr⟩, fun kk => va_lald hC.1 hC.2.1 hE.1 b2 a 1 b4 rfl (in_of hi hv) hd kk⟩
theorem o_aald (hd : decode M.2.1 pc = .ok (.aaload, 1)) : OpS I M C pc (pc + 1) (i_ald 102) := by
  refine OpS.br I (j := 0) rfl fun cf jmp nxt lo sk α nx k n res h => ?_
  obtain ⟨i, r, rfl, h1⟩ := pI_some h
  obtain ⟨a, r, rfl, h2⟩ := pR_some h1
  obtain ⟨cell, hg, h3⟩ := oG_some h2
  obtain ⟨ht, h4⟩ := gB_some h3
  obtain ⟨hi, h5⟩ := gB_some h4
  obtain ⟨v, hv, h6⟩ := oG_some h5
  rw [nth_eq] at hv
  refine ⟨false, _, h6, fun p l e R s m args below meth c Q G H locs ls cells slots ad rst hC hE hS hH hr => ?_⟩
  obtain ⟨_, us, rfl, rfl, w, us, rfl, hw, hr⟩ := hr
  obtain ⟨ws, x, en, rfl, hlt, b1, b2, b3, b4, b5, b6⟩ := hH.at hg (not200 ht (by decide)) hw
  obtain ⟨f, rfl, hf⟩ := b5.refs (Nat.eq_of_beq_eq_true ht)
  exact ⟨_, ⟨_, us, rfl, hf _ _ hv, hr⟩, fun kk => va_aldq hC.1 hC.2.1 hE.1 b2 a 2 b4 rfl (in_of hi hv) hd kk⟩
theorem o_iast (hd : decode M.2.1 pc = .ok (.iastore, 1)) : OpS I M C pc (pc + 1) i_iast := by
  refine OpS.wr I fun cf jmp nxt lo sk α nx k n res h => ?_
  obtain ⟨y, r, rfl, h0⟩ := pI_some h
  obtain ⟨i, r, rfl, h1⟩ := pI_some h0
  obtain ⟨a, r, rfl, h2⟩ := pR_some h1
  obtain ⟨cell, hg, h3⟩ := oG_some h2
  obtain ⟨ht, h4⟩ := gB_some h3
  obtain ⟨hi, h5⟩ := gB_some h4
  obtain ⟨v, hv, h6⟩ := oG_some h5
  rw [nth_eq] at hv
  refine ⟨_, _, h6, fun p l e R s m args below meth c Q G H locs ls cells slots ad rst hC hE hS hH hr => ?_⟩
  obtain ⟨_, us, rfl, rfl, _, us, rfl, rfl, w, us, rfl, hw, hr⟩ := hr
  obtain ⟨ws, x, en, rfl, hlt, b1, b2, b3, b4, b5, b6⟩ := hH.at hg (not200 ht (by decide)) hw
  have e1 := Nat.eq_of_beq_eq_true ht
  obtain ⟨f, rfl, hf⟩ := b5.ints e1
  refine ⟨us, hr, fun kk => va_iast hC.1 hC.2.1 hE.1 b2 b3 hS a 0 b4 rfl (in_of hi hv) hd (fun H1 locs1 p1 p2 p3 => kk H1 locs1 p3 (RH.put hg hlt b1 b4 b6 p1 p2 (Or.inr (Or.inl ⟨rfl, _, by rw [upx_eq, List.length_set], fun j u hu => ?_⟩))))⟩
  have hu : (upx cell.2 i.toNatClampNeg (.int y))[j]? = some u := hu
  rw [upx_eq] at hu
  unfold upd
  by_cases z : j = i.toNatClampNeg
  · subst z
    rw [List.getElem?_set_self (List.getElem?_eq_some_iff.mp hv).1] at hu
    rw [if_pos rfl]
    exact (Option.some.inj hu).symm
  · rw [List.getElem?_set_ne (fun y => z y.symm)] at hu
    rw [if_neg z]
    exact hf _ _ hu
theorem o_last (hd : decode M.2.1 pc = .ok (.lastore, 1)) : OpS I M C pc (pc + 1) i_last := by
  refine OpS.wr I fun cf jmp nxt lo sk α nx k n res h => ?_
  obtain ⟨y, r, rfl, h0⟩ := pL_some h
  obtain ⟨i, r, rfl, h1⟩ := pI_some h0
  obtain ⟨a, r, rfl, h2⟩ := pR_some h1
  obtain ⟨cell, hg, h3⟩ := oG_some h2
  obtain ⟨ht, h4⟩ := gB_some h3
  obtain ⟨hi, h5⟩ := gB_some h4
  obtain ⟨v, hv, h6⟩ := oG_some h5
  rw [nth_eq] at hv
  refine ⟨_, _, h6, fun p l e R s m args below meth c Q G H locs ls cells slots ad rst hC hE hS hH hr => ?_⟩
  obtain ⟨_, us, rfl, rfl, _, us, rfl, rfl, w, us, rfl, hw, hr⟩ := hr
  obtain ⟨ws, x, en, rfl, hlt, b1, b2, b3, b4, b5, b6⟩ := hH.at hg (not200 ht (by decide)) hw
  have e1 := Nat.eq_of_beq_eq_true ht
  obtain ⟨f, rfl, hf⟩ := b5.longs e1
  refine ⟨us, hr, fun kk => va_last hC.1 hC.2.1 hE.1 b2 b3 hS a 1 b4 rfl (in_of hi hv) hd (fun H1 locs1 p1 p2 p3 => kk H1 locs1 p3 (RH.put hg hlt b1 b4 b6 p1 p2 (Or.inr (Or.inr (Or.inl ⟨rfl, _, by rw [upx_eq, List.length_set], fun j u hu => ?_⟩)))))⟩
  have hu : (upx cell.2 i.toNatClampNeg (.long y))[j]? = some u := hu
  rw [upx_eq] at hu
  unfold vp_updL
  by_cases z : j = i.toNatClampNeg
  · subst z
    rw [List.getElem?_set_self (List.getElem?_eq_some_iff.mp hv).1] at hu
    rw [if_pos rfl]
    exact (Option.some.inj hu).symm
  · rw [List.getElem?_set_ne (fun y => z y.symm)] at hu
    rw [if_neg z]
    exact hf _ _ hu
theorem RE.refput {ad : List Nat} {sp : Nat → Nat} {c3 : C3} {l : List Value} {f : Nat → Option Nat} (hf : ∀ (j : Nat) (v : Value), l[j]? = some v → RV ad sp v (va_rf (f j))) {i : Nat} {v : Value} {r : Option Nat} (hv : RV ad sp v (va_rf r)) : RE ad sp c3 (102, upx l i v) (.inl (c3.2.2, l.length, .inr (.inr (.inr (.inr (va_up f i r)))))) := by
  refine Or.inr (Or.inr (Or.inr ⟨rfl, _, by rw [upx_eq, List.length_set], fun j u hu => ?_⟩))
  have hu : (upx l i v)[j]? = some u := hu
  rw [upx_eq] at hu
  unfold va_up
  by_cases z : j = i
  · subst z
    rw [if_pos rfl]
    rcases Nat.lt_or_ge j l.length with y | y
    · rw [List.getElem?_set_self y] at hu
      rw [← Option.some.inj hu]
      exact hv
    · rw [List.getElem?_eq_none (by simpa using y)] at hu
      cases hu
  · rw [List.getElem?_set_ne (fun y => z y.symm)] at hu
    rw [if_neg z]
    exact hf _ _ hu
theorem o_aast (hca : ∀ ci, 4 ≤ ci → ci ≤ 6 → ∃ r, vwCl[ci]? = some r ∧ Cond.castable r.1 "java/lang/Object" ∈ lw_st) (hd : decode M.2.1 pc = .ok (.aastore, 1)) : OpS I M C pc (pc + 1) i_aast := by
  refine OpS.wr I fun cf jmp nxt lo sk α nx k n res h => ?_
  obtain ⟨y, r, rfl, h0⟩ := pV_some h
  obtain ⟨i, r, rfl, h1⟩ := pI_some h0
  obtain ⟨a, r, rfl, h2⟩ := pR_some h1
  obtain ⟨cell, hg, h3⟩ := oG_some h2
  obtain ⟨ht, h4⟩ := gB_some h3
  obtain ⟨ho, h5⟩ := gB_some h4
  obtain ⟨hi, h6⟩ := gB_some h5
  obtain ⟨v, hv, h7⟩ := oG_some h6
  rw [nth_eq] at hv
  refine ⟨_, _, h7, fun p l e R s m args below meth c Q G H locs ls cells slots ad rst hC hE hS hH hr => ?_⟩
  obtain ⟨wy, us, rfl, hwy, _, us, rfl, rfl, w, us, rfl, hw, hr⟩ := hr
  obtain ⟨ws, x, en, rfl, hlt, b1, b2, b3, b4, b5, b6⟩ := hH.at hg (not200 ht (by decide)) hw
  obtain ⟨f, rfl, hf⟩ := b5.refs (Nat.eq_of_beq_eq_true ht)
  refine ⟨us, hr, fun kk => ?_⟩
  cases y with
  | null =>
    have e1 : wy = .null := hwy
    subst e1
    exact va_astqN hC.1 hC.2.1 hE.1 b2 b3 hS a 2 b4 rfl (in_of hi hv) hd (fun H1 locs1 p1 p2 p3 => kk H1 locs1 p3 (RH.put hg hlt b1 b4 b6 p1 p2 (RE.refput hf (r := none) rfl)))
  | ref b =>
    obtain ⟨xb, hxb, rfl⟩ := hwy
    have ho : (match hget α b with | some c => bB (Nat.ble 4 c.1) (Nat.ble c.1 6) false | none => false) = true := ho
    cases hb : hget α b with
    | none => rw [hb] at ho; cases ho
    | some cb =>
      rw [hb] at ho
      have ho : bB (Nat.ble 4 cb.1) (Nat.ble cb.1 6) false = true := ho
      cases h46 : Nat.ble 4 cb.1 with
      | false => rw [h46] at ho; cases ho
      | true =>
        rw [h46] at ho
        have z1 : 4 ≤ cb.1 := Nat.le_of_ble_eq_true h46
        have z2 : cb.1 ≤ 6 := Nat.le_of_ble_eq_true ho
        obtain ⟨hltb, q, hq, hrq⟩ := b6 b cb hb (by omega)
        have hx2 : q.1 = xb := by
          unfold lk at hxb
          rw [if_pos hltb, ← b1, List.getElem?_map, hq] at hxb
          exact Option.some.inj hxb
        obtain ⟨vs, hvs, -⟩ := hrq.obj (by omega)
        obtain ⟨rc, hrc, hcast⟩ := hca cb.1 z1 z2
        have hqq : ws[b]? = some (xb, .inr (cb.1, vs)) := by rw [hq, ← hx2, ← hvs]
        exact va_astqO hC.1 hC.2.1 hE.1 b2 b3 hS a 2 b cb.1 b4 rfl (hE.2.1.nw hcast) hqq hrc (in_of hi hv) hd (fun H1 locs1 p1 p2 p3 => kk H1 locs1 p3 (RH.put hg hlt b1 b4 b6 p1 p2 (RE.refput hf (r := some xb) ⟨xb, hxb, rfl⟩)))
  | _ => cases ho
theorem o_cast {ci idx N : Nat} {K : String} {T : u_T} {ty : Nat → FieldType} (hc : ClsF ci K T N ty) (hw : Cond.classLink M.1.cls idx K ∈ lw_all) (hd : decode M.2.1 pc = .ok (.checkcast idx, 3)) : OpS I M C pc (pc + 3) (i_cast ci) := by
  refine OpS.br I (j := 0) rfl fun cf jmp nxt lo sk α nx k n res h => ?_
  obtain ⟨a, r, rfl, h1⟩ := pR_some h
  obtain ⟨cell, hg, h2⟩ := oG_some h1
  obtain ⟨ht, h3⟩ := gB_some h2
  refine ⟨false, _, h3, fun p l e R s m args below meth c Q G H locs ls cells slots ad rst hC hE hS hH hr => ?_⟩
  obtain ⟨w, us, rfl, hwv, hr⟩ := hr
  have e1 := Nat.eq_of_beq_eq_true ht
  obtain ⟨ws, x, en, rfl, hlt, b1, b2, b3, b4, b5, b6⟩ := hH.at hg (not200 ht (by have := hc.1; omega)) hwv
  obtain ⟨vs, rfl, hvs⟩ := b5.obj (by rw [e1]; exact hc.1)
  rw [e1] at b4
  refine ⟨.ref x :: us, ⟨_, us, rfl, hwv, hr⟩, fun kk => ?_⟩
  exact va_castS hC.1 hC.2.1 hC.2.2.2.2.1 (hC.2.2.2.2.2.1 _ hw) (hE.1.1 ci _ hc.2.1).2 (va_recv hE.1 b2 hc.2.1 b4) hd kk
theorem nb_ne {y m : Nat} (h : bB (Nat.beq y m) false true = true) : y ≠ m := by
  intro e
  rw [e, Nat.beq_refl] at h
  cases h
theorem lk_inj {I : EVT} {G : GP} {s : State} (hE : SE I G s s.heap) {α : AH} {ad : List Nat} {H : Heap} (hH : RH (gD G) (gc G) (OA (gb G)) ad (gs G) α H) {a b x y : Nat} (na : a ≠ 1000004) (nb : b ≠ 1000004) (ha : lk ad (gs G) a = some x) (hb : lk ad (gs G) b = some y) : x = y ↔ a = b := by
  obtain ⟨ws, h1, h2, h3, h4⟩ := hH
  obtain ⟨s1, s2, s3, s4, s5, s6, s7, s8, s9, s10, s11, s12⟩ := hE
  constructor
  · intro z
    subst z
    unfold lk at ha hb
    by_cases za : a < 1000000
    · rw [if_pos za, ← h1, List.getElem?_map] at ha
      cases hwa : ws[a]? with
      | none => rw [hwa] at ha; cases ha
      | some qa =>
        rw [hwa] at ha
        have ha : qa.1 = x := Option.some.inj ha
        by_cases zb : b < 1000000
        · rw [if_pos zb, ← h1, List.getElem?_map] at hb
          cases hwb : ws[b]? with
          | none => rw [hwb] at hb; cases hb
          | some qb =>
            rw [hwb] at hb
            have hb : qb.1 = x := Option.some.inj hb
            exact h3.1 a b qa qb hwa hwb (ha.trans hb.symm)
        · rw [if_neg zb] at hb
          by_cases zc : b < 1000005
          · rw [if_pos zc] at hb
            have hb : gs G (b - 1000000) = x := Option.some.inj hb
            have l1 := s5 (b - 1000000) (by omega)
            have l2 : gb G ≤ qa.1 := h3.2 a qa hwa
            omega
          · rw [if_neg zc] at hb
            cases hb
    · rw [if_neg za] at ha
      by_cases zc : a < 1000005
      · rw [if_pos zc] at ha
        have ha : gs G (a - 1000000) = x := Option.some.inj ha
        by_cases zb : b < 1000000
        · rw [if_pos zb, ← h1, List.getElem?_map] at hb
          cases hwb : ws[b]? with
          | none => rw [hwb] at hb; cases hb
          | some qb =>
            rw [hwb] at hb
            have hb : qb.1 = x := Option.some.inj hb
            have l1 := s5 (a - 1000000) (by omega)
            have l2 : gb G ≤ qb.1 := h3.2 b qb hwb
            omega
        · rw [if_neg zb] at hb
          by_cases zd : b < 1000005
          · rw [if_pos zd] at hb
            have hb : gs G (b - 1000000) = x := Option.some.inj hb
            have := s6 _ _ (by omega) (by omega) (ha.trans hb.symm)
            omega
          · rw [if_neg zd] at hb
            cases hb
      · rw [if_neg zc] at ha
        cases ha
  · intro z
    subst z
    exact Option.some.inj (ha.symm.trans hb)
theorem o_ac_ne {j : Nat} {off : Int} (hd : decode M.2.1 pc = .ok (.if_acmp .ne off, 3)) (ht : (pc : Int) + off = ((pcAt C j : Nat) : Int)) : OpS I M C pc (pc + 3) (i_ac false j) := by
  refine OpS.br I (tgt := pcAt C j) rfl fun cf jmp nxt lo sk α nx k n res h => ?_
  obtain ⟨y, r, rfl, h1⟩ := pR_some h
  obtain ⟨x, r, rfl, h2⟩ := pR_some h1
  obtain ⟨g1, h2⟩ := gB_some h2
  obtain ⟨g2, h2⟩ := gB_some h2
  refine ⟨_, r, h2, fun p l e R s m args below meth c Q G H locs ls cells slots ad rst hC hE hS hH hr => ?_⟩
  obtain ⟨_, us, rfl, ⟨b, hb, rfl⟩, _, us, rfl, ⟨a, ha, rfl⟩, hr⟩ := hr
  have hi := lk_inj hE hH (nb_ne g2) (nb_ne g1) ha hb
  refine ⟨us, hr, fun kk => lv_acmp_ne (rx := some a) (ry := some b) hC.1 hC.2.1 hd ht (fun z => ?_) (fun z => ?_)⟩
  · cases hz : Nat.beq x y with
    | true => exact absurd (by rw [hi.mpr (Nat.eq_of_beq_eq_true hz)]) z
    | false =>
      simp only [hz] at kk
      exact kk
  · have e1 := hi.mp (Option.some.inj z)
    have hz : Nat.beq x y = true := by rw [e1]; exact Nat.beq_refl y
    simp only [hz] at kk
    exact kk
theorem o_ac_eq {j : Nat} {off : Int} (hd : decode M.2.1 pc = .ok (.if_acmp .eq off, 3)) (ht : (pc : Int) + off = ((pcAt C j : Nat) : Int)) : OpS I M C pc (pc + 3) (i_ac true j) := by
  refine OpS.br I (tgt := pcAt C j) rfl fun cf jmp nxt lo sk α nx k n res h => ?_
  obtain ⟨y, r, rfl, h1⟩ := pR_some h
  obtain ⟨x, r, rfl, h2⟩ := pR_some h1
  obtain ⟨g1, h2⟩ := gB_some h2
  obtain ⟨g2, h2⟩ := gB_some h2
  refine ⟨_, r, h2, fun p l e R s m args below meth c Q G H locs ls cells slots ad rst hC hE hS hH hr => ?_⟩
  obtain ⟨_, us, rfl, ⟨b, hb, rfl⟩, _, us, rfl, ⟨a, ha, rfl⟩, hr⟩ := hr
  have hi := lk_inj hE hH (nb_ne g2) (nb_ne g1) ha hb
  refine ⟨us, hr, fun kk => lv_acmp_eq (rx := some a) (ry := some b) hC.1 hC.2.1 hd ht (fun z => ?_) (fun z => ?_)⟩
  · have e1 := hi.mp (Option.some.inj z)
    have hz : Nat.beq x y = true := by rw [e1]; exact Nat.beq_refl y
    simp only [hz] at kk
    exact kk
  · cases hz : Nat.beq x y with
    | true => exact absurd (by rw [hi.mpr (Nat.eq_of_beq_eq_true hz)]) z
    | false =>
      simp only [hz] at kk
      exact kk
theorem o_ifnull {j : Nat} {off : Int} (hd : decode M.2.1 pc = .ok (.ifnull off, 3)) (ht : (pc : Int) + off = ((pcAt C j : Nat) : Int)) : OpS I M C pc (pc + 3) (i_nul true j) := by
  refine OpS.br I (tgt := pcAt C j) rfl fun cf jmp nxt lo sk α nx k n res h => ?_
  obtain ⟨v, r, rfl, h1⟩ := pV_some h
  obtain ⟨hT, h2⟩ := gB_some h1
  refine ⟨_, r, h2, fun p l e R s m args below meth c Q G H locs ls cells slots ad rst hC hE hS hH hr => ?_⟩
  obtain ⟨w, us, rfl, hw, hr⟩ := hr
  refine ⟨us, hr, fun kk => ?_⟩
  rcases isT2 hT with rfl | ⟨x, rfl⟩
  · rw [show w = _ from hw]
    exact lv_ifnullN hC.1 hC.2.1 hd ht kk
  · obtain ⟨b, -, rfl⟩ := hw
    exact lv_ifnull hC.1 hC.2.1 hd kk
theorem o_ifnonnull {j : Nat} {off : Int} (hd : decode M.2.1 pc = .ok (.ifnonnull off, 3)) (ht : (pc : Int) + off = ((pcAt C j : Nat) : Int)) : OpS I M C pc (pc + 3) (i_nul false j) := by
  refine OpS.br I (tgt := pcAt C j) rfl fun cf jmp nxt lo sk α nx k n res h => ?_
  obtain ⟨v, r, rfl, h1⟩ := pV_some h
  obtain ⟨hT, h2⟩ := gB_some h1
  refine ⟨_, r, h2, fun p l e R s m args below meth c Q G H locs ls cells slots ad rst hC hE hS hH hr => ?_⟩
  obtain ⟨w, us, rfl, hw, hr⟩ := hr
  refine ⟨us, hr, fun kk => ?_⟩
  rcases isT2 hT with rfl | ⟨x, rfl⟩
  · rw [show w = _ from hw]
    exact lv_ifnonnullN hC.1 hC.2.1 hd kk
  · obtain ⟨b, -, rfl⟩ := hw
    exact lv_ifnonnull hC.1 hC.2.1 hd ht kk
theorem o_slen (hd : decode M.2.1 pc = .ok (.arraylength, 1)) : OpS I M C pc (pc + 1) (i_slen I.2.1) := by
  refine OpS.br I (j := 0) rfl fun cf jmp nxt lo sk α nx k n res h => ?_
  obtain ⟨a, r, rfl, h1⟩ := pR_some h
  obtain ⟨ha, h2⟩ := gB_some h1
  refine ⟨false, _, h2, fun p l e R s m args below meth c Q G H locs ls cells slots ad rst hC hE hS hH hr => ?_⟩
  obtain ⟨_, us, rfl, ⟨x, hx, rfl⟩, hr⟩ := hr
  have ha := Nat.eq_of_beq_eq_true ha
  subst ha
  have hx : some (gs G 4) = some x := hx
  cases hx
  obtain ⟨s1, s2, s3, s4, s5, s6, s7, s8, s9, s10, s11, s12⟩ := hE
  exact ⟨_, ⟨_, us, rfl, rfl, hr⟩, fun kk => va_slen hC.1 hC.2.1 s10 (Nat.lt_of_lt_of_le (s5 4 (by decide)) s11) (Nat.not_le.mpr (s5 4 (by decide))) hS hd kk⟩
theorem o_sld (hd : decode M.2.1 pc = .ok (.iaload, 1)) : OpS I M C pc (pc + 1) (i_sld I.2.1 I.2.2) := by
  refine OpS.br I (j := 0) rfl fun cf jmp nxt lo sk α nx k n res h => ?_
  obtain ⟨i, r, rfl, h0⟩ := pI_some h
  obtain ⟨a, r, rfl, h1⟩ := pR_some h0
  obtain ⟨ha, h2⟩ := gB_some h1
  obtain ⟨hi, h3⟩ := gB_some h2
  obtain ⟨hl, h4⟩ := gB_some h3
  refine ⟨false, _, h4, fun p l e R s m args below meth c Q G H locs ls cells slots ad rst hC hE hS hH hr => ?_⟩
  obtain ⟨_, us, rfl, rfl, _, us, rfl, ⟨x, hx, rfl⟩, hr⟩ := hr
  have ha := Nat.eq_of_beq_eq_true ha
  subst ha
  have hx : some (gs G 4) = some x := hx
  cases hx
  obtain ⟨s1, s2, s3, s4, s5, s6, s7, s8, s9, s10, s11, s12⟩ := hE
  have hl : i.toNatClampNeg < I.2.1 := Nat.le_of_ble_eq_true hl
  refine ⟨_, ⟨_, us, rfl, rfl, hr⟩, fun kk => va_sld hC.1 hC.2.1 s10 (Nat.lt_of_lt_of_le (s5 4 (by decide)) s11) (Nat.not_le.mpr (s5 4 (by decide))) hS ?_ hd kk⟩
  rintro (z | z)
  · have := ltI_iff.mpr z
    rw [bnot hi] at this
    cases this
  · omega
theorem o_objInit {idx : Nat} (h1 : Cond.methodLink M.1.cls idx objectInit ∈ lw_all) (h2 : Cond.instanceMethod objectInit ∈ lw_all) (h3 : Cond.code objectInit ⟨#[0xb1]⟩ 1 none ∈ lw_all) (hd : decode M.2.1 pc = .ok (.invokespecial idx, 3)) : OpS I M C pc (pc + 3) (fun _ _ nxt lo sk α nx k n => pR sk (fun _ r => gB (Nat.ble (catS r) 8) (nxt lo r α nx k n))) := by
  intro d cf p l e R s m args below meth c Q G ad0 res jmp nxt lo sk α nx k n hC hE hR hQ hcf hn hj h
  obtain ⟨a, r, rfl, g1⟩ := pR_some h
  obtain ⟨hcat, g2⟩ := gB_some g1
  obtain ⟨w1, w2⟩ := hn _ _ _ _ _ _ g2
  refine ⟨w1, fun ad H locs ls rst hv => ?_⟩
  obtain ⟨a1, a2, a3, a4, a5, _, us, rfl, ⟨x, hx, rfl⟩, hr⟩ := hv
  obtain ⟨c1, c2, c3, c4, c5, c6, c7, c8, c9, c10⟩ := hC
  have hc8 : catS r ≤ 8 := Nat.le_of_ble_eq_true hcat
  have hR1 : d + 6 ≤ R.frames := hR.1
  have hR2 : 128 * (d + 1) + 100 ≤ R.locals := hR.2.1
  refine W.objInit c1 c2 c5 (c6 _ h1) (c6 _ h2) (c6 _ h3) rfl (by rw [c3]; exact a5.1) rfl hd (by omega) ?_ ?_
  · have h5 := lv_room (m := m) (pc := pc) (ls := ls) (rest := Value.ref x :: us) (st := us) (by rw [hr.csum]; exact hc8)
    omega
  · exact W.eq rfl (w2 ad H locs ls us ⟨a1, a2, a3, a4, a5, hr⟩)
end HOPS2
