/-! ===== instructions on the heap ===== -/
theorem RH.at {D : va_G} {c3 : C3} {A : Nat → Prop} {ad : List Nat} {sp : Nat → Nat} {α : AH} {H : Heap} (h : RH D c3 A ad sp α H) {a : Nat} {c : AC} (hc : hget α a = some c) (h2 : c.1 ≠ 200) {w : Value} (hw : RV ad sp (.ref a) w) :
    ∃ (ws : va_W) (x : Nat) (e : va_E), w = .ref x ∧ a < 1000000 ∧ ws.map (·.1) = ad ∧ va_P D vwCl ws H ∧ va_D A ws ∧ ws[a]? = some (x, e) ∧ RE ad sp c3 c e ∧ ∀ (k : Nat) (c : AC), hget α k = some c → c.1 ≠ 200 → k < 1000000 ∧ ∃ q, ws[k]? = some q ∧ RE ad sp c3 c q.2 := by
  obtain ⟨ws, h3, h4, h5, h6⟩ := h
  obtain ⟨hlt, q, hq, hr⟩ := h6 a c hc h2
  obtain ⟨x, hx, rfl⟩ := hw
  unfold lk at hx
  rw [if_pos hlt, ← h3, List.getElem?_map, hq] at hx
  have hx : q.1 = x := Option.some.inj hx
  subst hx
  exact ⟨ws, q.1, q.2, rfl, hlt, h3, h4, h5, hq, hr, h6⟩
theorem ws_set {ws : va_W} {a x : Nat} {e e' : va_E} (h : ws[a]? = some (x, e)) : (ws.set a (x, e')).map (·.1) = ws.map (·.1) := by
  refine List.ext_getElem? (fun i => ?_)
  rw [List.getElem?_map, List.getElem?_map]
  by_cases z : a = i
  · subst z
    rw [List.getElem?_set_self (List.getElem?_eq_some_iff.mp h).1, h]
    rfl
  · rw [List.getElem?_set_ne z]
theorem RH.put {D : va_G} {c3 : C3} {A : Nat → Prop} {ad : List Nat} {sp : Nat → Nat} {α : AH} {H1 : Heap} {ws : va_W} {a x : Nat} {c c' : AC} {e e' : va_E} (hc : hget α a = some c) (hlt : a < 1000000) (h1 : ws.map (·.1) = ad) (h2 : ws[a]? = some (x, e)) (h3 : ∀ (k : Nat) (c : AC), hget α k = some c → c.1 ≠ 200 → k < 1000000 ∧ ∃ q, ws[k]? = some q ∧ RE ad sp c3 c q.2)
    (hP : va_P D vwCl (ws.set a (x, e')) H1) (hD : va_D A (ws.set a (x, e'))) (hr : RE ad sp c3 c' e') : RH D c3 A ad sp (hput α a c') H1 := by
  refine ⟨ws.set a (x, e'), by rw [ws_set h2]; exact h1, hP, hD, fun j cj hj hn => ?_⟩
  rw [hput_get hc] at hj
  by_cases z : j = a
  · subst z
    rw [if_pos rfl] at hj
    cases hj
    exact ⟨hlt, (x, e'), List.getElem?_set_self (List.getElem?_eq_some_iff.mp h2).1, hr⟩
  · rw [if_neg z] at hj
    obtain ⟨g1, q, g2, g3⟩ := h3 j cj hj hn
    exact ⟨g1, q, by rw [List.getElem?_set_ne (fun y => z y.symm)]; exact g2, g3⟩
theorem RH.add {D : va_G} {c3 : C3} {A : Nat → Prop} {ad : List Nat} {sp : Nat → Nat} {α α' : AH} {H1 : Heap} {nx x : Nat} {c : AC} {e : va_E} {ws : va_W} (h3 : ws.map (·.1) = ad) (h6 : ∀ (k : Nat) (c : AC), hget α k = some c → c.1 ≠ 200 → k < 1000000 ∧ ∃ q, ws[k]? = some q ∧ RE ad sp c3 c q.2) (hl : ad.length = nx) (hlt : nx < 1000000) (ha : hadd α nx c = some α')
    (p1 : va_P D vwCl (ws ++ [(x, e)]) H1) (p2 : va_D A (ws ++ [(x, e)])) (hr : RE (ad ++ [x]) sp c3 c e) : RH D c3 A (ad ++ [x]) sp α' H1 := by
  obtain ⟨g1, g2⟩ := hadd_get ha
  have hw : ws.length = nx := by rw [← hl, ← h3, List.length_map]
  refine ⟨ws ++ [(x, e)], by rw [List.map_append, h3]; rfl, p1, p2, fun j cj hj hn => ?_⟩
  rw [g2] at hj
  by_cases z : j = nx
  · subst z
    rw [if_pos rfl] at hj
    cases hj
    refine ⟨hlt, (x, e), ?_, hr⟩
    rw [← hw]
    simp
  · rw [if_neg z] at hj
    obtain ⟨b1, q, b2, b3⟩ := h6 j cj hj hn
    exact ⟨b1, q, by rw [List.getElem?_append_left (List.getElem?_eq_some_iff.mp b2).1]; exact b2, b3.mono ⟨_, rfl⟩⟩
section HEAP
variable (I : EVT)
/-- an instruction that writes one cell -/
theorem OpS.wr {M : MI} {C : List (Nat × OP)} {pc npc : Nat} {op : OP}
    (step : ∀ (cf : CF) (jmp : Nat → KK) (nxt : KK) (lo sk : List Value) (α : AH) (nx k n : Nat) (res : RS), op cf jmp nxt lo sk α nx k n = some res → ∃ (sk' : List Value) (α' : AH), nxt lo sk' α' nx k n = some res ∧
      ∀ (p : Program) (l : Launch) (e : Env) (R : Room) (s : State) (m : MethodId) (args : Array Value) (below : List Frame) (meth : Method) (c : Code) (Q : State → Prop) (G : GP) (H : Heap) (locs : List Loc) (ls : Array Slot) (cells slots : Nat) (ad : List Nat) (rst : List Value), CX M p l s m args meth c → SE I G s s.heap → va_S (OA (gb G)) s.heap H locs → RH (gD G) (gc G) (OA (gb G)) ad (gs G) α H → RVs ad (gs G) sk rst →
        ∃ rst', RVs ad (gs G) sk' rst' ∧ ((∀ (H1 : Heap) (locs1 : List Loc), va_S (OA (gb G)) s.heap H1 locs1 → RH (gD G) (gc G) (OA (gb G)) ad (gs G) α' H1 → W p l e R s m args below meth c H1 locs1 cells slots Q (F0 m npc ls rst')) → W p l e R s m args below meth c H locs cells slots Q (F0 m pc ls rst))) : OpS I M C pc npc op := by
  intro d cf p l e R s m args below meth c Q G ad0 res jmp nxt lo sk α nx k n hC hE hR hQ hcf hn hj h
  obtain ⟨sk', α', h1, h2⟩ := step cf jmp nxt lo sk α nx k n res h
  obtain ⟨g1, g2⟩ := hn _ _ _ _ _ _ h1
  refine ⟨g1, fun ad H locs ls rst hv => ?_⟩
  obtain ⟨a1, a2, a3, a4, a5, a6⟩ := hv
  obtain ⟨rst', b1, b2⟩ := h2 p l e R s m args below meth c Q G H locs ls k n ad rst hC hE a3 a4 a6
  exact b2 (fun H1 locs1 hS hH => g2 ad H1 locs1 ls rst' ⟨a1, a2, hS, hH, a5, b1⟩)
/-- an instruction that makes one cell of N slots -/
theorem OpS.al {M : MI} {C : List (Nat × OP)} {pc npc : Nat} {op : OP}
    (step : ∀ (cf : CF) (jmp : Nat → KK) (nxt : KK) (lo sk : List Value) (α : AH) (nx k n : Nat) (res : RS), op cf jmp nxt lo sk α nx k n = some res → ∃ (r : List Value) (α' : AH) (cell : AC) (N : Nat), nx < 1000000 ∧ hadd α nx cell = some α' ∧ nxt lo (.ref nx :: r) α' (nx + 1) (k + 1) (n + N) = some res ∧
      ∀ (p : Program) (l : Launch) (e : Env) (R : Room) (s : State) (m : MethodId) (args : Array Value) (below : List Frame) (meth : Method) (c : Code) (Q : State → Prop) (G : GP) (H : Heap) (locs : List Loc) (ls : Array Slot) (ad : List Nat) (rst : List Value) (ws : va_W), CX M p l s m args meth c → SE I G s s.heap → va_S (OA (gb G)) s.heap H locs → va_P (gD G) vwCl ws H → va_D (OA (gb G)) ws → RVs ad (gs G) sk rst → k + 1 ≤ R.cells → n + N ≤ R.slots →
        ∃ rst', RVs ad (gs G) r rst' ∧ ((∀ (q : Nat) (en : va_E) (H1 : Heap), va_S (OA (gb G)) s.heap H1 locs → va_P (gD G) vwCl (ws ++ [(q, en)]) H1 → va_D (OA (gb G)) (ws ++ [(q, en)]) → RE ad (gs G) (gc G) cell en → W p l e R s m args below meth c H1 locs (k + 1) (n + N) Q (F0 m npc ls (.ref q :: rst'))) → W p l e R s m args below meth c H locs k n Q (F0 m pc ls rst))) : OpS I M C pc npc op := by
  intro d cf p l e R s m args below meth c Q G ad0 res jmp nxt lo sk α nx k n hC hE hR hQ hcf hn hj h
  obtain ⟨r, α', cell, N, hlt, ha, h1, h2⟩ := step cf jmp nxt lo sk α nx k n res h
  obtain ⟨⟨g0, g1⟩, g2⟩ := hn _ _ _ _ _ _ h1
  refine ⟨⟨by omega, by omega⟩, fun ad H locs ls rst hv => ?_⟩
  obtain ⟨a1, a2, a3, a4, a5, a6⟩ := hv
  obtain ⟨ws, w1, w2, w3, w4⟩ := a4
  obtain ⟨rst', b1, b2⟩ := h2 p l e R s m args below meth c Q G H locs ls ad rst ws hC hE a3 w2 w3 a6 (Nat.le_trans g0 hR.2.2.1) (Nat.le_trans g1 hR.2.2.2)
  refine b2 (fun q en H1 hS p1 p2 hr => g2 (ad ++ [q]) H1 locs ls (.ref q :: rst') ⟨a1.tr ⟨_, rfl⟩, by simp [a2], hS, RH.add w1 w4 a2 hlt ha p1 p2 (hr.mono ⟨_, rfl⟩), a5.mono ⟨_, rfl⟩, .ref q, rst', rfl, ⟨q, ?_, rfl⟩, b1.mono ⟨_, rfl⟩⟩)
  unfold lk
  rw [if_pos hlt, ← a2]
  simp
end HEAP
noncomputable section
def i_getf (ci j : Nat) : OP := fun _ _ nxt lo sk α nx k n => pR sk (fun a r => oG (hget α a) (fun c => gB (Nat.beq c.1 ci) (oG (nth c.2 j) (fun v => nxt lo (v :: r) α nx k n))))
def okF (t : Nat) (v : Value) : Bool := match t with
  | 0 => isT 0 v
  | 1 => isT 1 v
  | 2 => isT 2 v
  | 3 => (match v with | .int x => bB (eqI x 0) true (eqI x 1) | _ => false)
  | _ => (match v with | .int x => decide (x.toUInt32.toUInt16.toUInt32.toInt32 = x ∧ 0 ≤ x ∧ x ≤ 65535) | _ => false)
def i_putf (ci j t : Nat) : OP := fun _ _ nxt lo sk α nx k n => pV sk (fun v r => pR r (fun a r => oG (hget α a) (fun c => gB (Nat.beq c.1 ci) (gB (okF t v) (oG (nth c.2 j) (fun _ => nxt lo r (hput α a (ci, upx c.2 j v)) nx k n))))))
def i_sof (j : Nat) : OP := fun _ _ nxt lo sk α nx k n => pR sk (fun a r => gB (Nat.ble 1000000 a) (gB (Nat.blt a 1000003) (nxt lo (.int (soV j (a - 1000000)) :: r) α nx k n)))
def i_gets (i : Nat) : OP := fun _ _ nxt lo sk α nx k n => nxt lo (.ref (1000000 + i) :: sk) α nx k n
def i_new (ci : Nat) (fs : List Value) (N : Nat) : OP := fun _ _ nxt lo sk α nx k n => gB (Nat.blt nx 1000000) (oG (hadd α nx (ci, fs)) (fun α' => nxt lo (.ref nx :: sk) α' (nx + 1) (k + 1) (n + N)))
/-- a new row: 100 of ints, 101 of longs, 102 of references -/
def i_newa (t : Nat) (z : Value) : OP := fun _ _ nxt lo sk α nx k n => pI sk (fun x r => gB (bB (ltI x 0) false true) (gB (Nat.ble x.toNatClampNeg 1000) (gB (Nat.blt nx 1000000) (oG (hadd α nx (t, List.replicate x.toNatClampNeg z)) (fun α' => nxt lo (.ref nx :: r) α' (nx + 1) (k + 1) (n + x.toNatClampNeg))))))
def i_alen : OP := fun _ _ nxt lo sk α nx k n => pR sk (fun a r => bB (Nat.beq a 1000003) (nxt lo (.int 0 :: r) α nx k n) (oG (hget α a) (fun c => gB (Nat.ble 100 c.1) (gB (Nat.ble c.1 102) (nxt lo (.int (Int32.ofNat c.2.length) :: r) α nx k n)))))
def i_ald (t : Nat) : OP := fun _ _ nxt lo sk α nx k n => pI sk (fun i r => pR r (fun a r => oG (hget α a) (fun c => gB (Nat.beq c.1 t) (gB (bB (ltI i 0) false true) (oG (nth c.2 i.toNatClampNeg) (fun v => nxt lo (v :: r) α nx k n))))))
def i_iast : OP := fun _ _ nxt lo sk α nx k n => pI sk (fun x r => pI r (fun i r => pR r (fun a r => oG (hget α a) (fun c => gB (Nat.beq c.1 100) (gB (bB (ltI i 0) false true) (oG (nth c.2 i.toNatClampNeg) (fun _ => nxt lo r (hput α a (100, upx c.2 i.toNatClampNeg (.int x))) nx k n)))))))
def i_last : OP := fun _ _ nxt lo sk α nx k n => pL sk (fun x r => pI r (fun i r => pR r (fun a r => oG (hget α a) (fun c => gB (Nat.beq c.1 101) (gB (bB (ltI i 0) false true) (oG (nth c.2 i.toNatClampNeg) (fun _ => nxt lo r (hput α a (101, upx c.2 i.toNatClampNeg (.long x))) nx k n)))))))
/-- may stand in a row of objects: null, or an object of the three kinds -/
def okA (α : AH) (v : Value) : Bool := match v with
  | .null => true
  | .ref b => (match hget α b with | some c => bB (Nat.ble 4 c.1) (Nat.ble c.1 6) false | none => false)
  | _ => false
def i_aast : OP := fun _ _ nxt lo sk α nx k n => pV sk (fun v r => pI r (fun i r => pR r (fun a r => oG (hget α a) (fun c => gB (Nat.beq c.1 102) (gB (okA α v) (gB (bB (ltI i 0) false true) (oG (nth c.2 i.toNatClampNeg) (fun _ => nxt lo r (hput α a (102, upx c.2 i.toNatClampNeg v)) nx k n))))))))
def i_cast (ci : Nat) : OP := fun _ _ nxt lo sk α nx k n => pR sk (fun a r => oG (hget α a) (fun c => gB (Nat.beq c.1 ci) (nxt lo (.ref a :: r) α nx k n)))
def i_slen (L : Nat) : OP := fun _ _ nxt lo sk α nx k n => pR sk (fun a r => gB (Nat.beq a 1000004) (nxt lo (.int (Int32.ofNat L) :: r) α nx k n))
def i_sld (L : Nat) (xs : Nat → Int32) : OP := fun _ _ nxt lo sk α nx k n => pI sk (fun i r => pR r (fun a r => gB (Nat.beq a 1000004) (gB (bB (ltI i 0) false true) (gB (Nat.blt i.toNatClampNeg L) (nxt lo (.int (xs i.toNatClampNeg) :: r) α nx k n)))))
end
section HOPS
variable {I : EVT} {M : MI} {C : List (Nat × OP)} {pc : Nat}
/-- what the tables say of objects of number ci -/
def ClsF (ci : Nat) (K : String) (T : u_T) (N : Nat) (ty : Nat → FieldType) : Prop := ci < 100 ∧ vwCl[ci]? = some (K, T, N) ∧ (∀ w ∈ u_ws K T N, w ∈ lw_all) ∧ (∀ k, k < N → parseFieldDescriptor (T k).2.2.1 = some (ty k)) ∧ ∀ a, a < N → ∀ b, b < N → a ≠ b → (T a).2.1 ≠ (T b).2.1
def LinkW (own : String) (idx : Nat) (ref name desc : String) : Prop := Cond.fieldLink own idx ref name desc ∈ lw_all ∨ ∃ host, Cond.fieldLinkNest own idx ref name desc host ∈ lw_st
def SameW (o ref name desc : String) : Prop := o = ref ∨ Cond.sameField ref o name desc ∈ lw_all
theorem SameW.use {o ref name desc : String} (h : SameW o ref name desc) {args : Array Value} {s : State} (hts : ∀ w ∈ lw_all, w.before args s = true) : ∀ x, s.fieldFound? o name desc = some x → s.fieldFound? ref name desc = some x := by
  rcases h with rfl | h
  · exact fun _ z => z
  · exact u_same (hts _ h)
theorem not200 {x y : Nat} (h : Nat.beq x y = true) (hy : y < 150) : x ≠ 200 := by
  have := Nat.eq_of_beq_eq_true h
  omega
theorem RE.obj {ad : List Nat} {sp : Nat → Nat} {c3 : C3} {c : AC} {e : va_E} (h : RE ad sp c3 c e) (hc : c.1 < 100) : ∃ vs, e = .inr (c.1, vs) ∧ RVs ad sp c.2 vs := by
  rcases h with ⟨-, h⟩ | ⟨h, -⟩ | ⟨h, -⟩ | ⟨h, -⟩
  · exact h
  · omega
  · omega
  · omega
theorem o_getf {ci j idx N : Nat} {K ref : String} {T : u_T} {ty : Nat → FieldType} (hc : ClsF ci K T N ty) (hj : j < N) (hl : LinkW M.1.cls idx ref (T j).2.1 (T j).2.2.1) (hs : SameW (T j).1 ref (T j).2.1 (T j).2.2.1) (hd : decode M.2.1 pc = .ok (.getfield idx, 3)) : OpS I M C pc (pc + 3) (i_getf ci j) := by
  refine OpS.br I (j := 0) rfl fun cf jmp nxt lo sk α nx k n res h => ?_
  obtain ⟨a, r, rfl, h1⟩ := pR_some h
  obtain ⟨cell, hg, h2⟩ := oG_some h1
  obtain ⟨ht, h3⟩ := gB_some h2
  obtain ⟨v, hv, h4⟩ := oG_some h3
  refine ⟨false, _, h4, fun p l e R s m args below meth c Q G H locs ls cells slots ad rst hC hE hS hH hr => ?_⟩
  obtain ⟨w, us, rfl, hw, hr⟩ := hr
  have e1 := Nat.eq_of_beq_eq_true ht
  obtain ⟨ws, x, en, rfl, hlt, b1, b2, b3, b4, b5, b6⟩ := hH.at hg (not200 ht (by have := hc.1; omega)) hw
  obtain ⟨vs, rfl, hvs⟩ := b5.obj (by rw [e1]; exact hc.1)
  rw [nth_eq] at hv
  obtain ⟨u, hu, hru⟩ := hvs.at hv
  rw [e1] at b4
  refine ⟨u :: us, ⟨u, us, rfl, hru, hr⟩, fun kk => ?_⟩
  obtain ⟨c1, c2, c3, c4, c5, c6, c7, c8, c9, c10⟩ := hC
  rcases hl with hl | ⟨host, hl⟩
  · exact va_get c1 c2 c6 hc.2.2.1 c5 hE.1 b2 a b4 hc.2.1 j hj (c6 _ hl) (hs.use c6) hu hd kk
  · exact va_getN c1 c2 c6 hc.2.2.1 c5 hE.1 b2 a b4 hc.2.1 j hj (hE.2.1.use hl) (hs.use c6) hu hd kk
def tyK (t : Nat) (ty : FieldType) : Prop := (t = 0 ∧ ty = .int) ∨ (t = 1 ∧ ty = .long) ∨ (t = 2 ∧ ((∃ n, ty = .object n) ∨ ∃ x, ty = .array x)) ∨ (t = 3 ∧ ty = .boolean) ∨ (t = 4 ∧ ty = .char)
theorem okF_spec {t : Nat} {ty : FieldType} (h : tyK t ty) {ad : List Nat} {sp : Nat → Nat} {v w : Value} (hv : okF t v = true) (hw : RV ad sp v w) : narrow ty w = w ∧ fits ty w = true := by
  rcases h with ⟨rfl, rfl⟩ | ⟨rfl, rfl⟩ | ⟨rfl, h⟩ | ⟨rfl, rfl⟩ | ⟨rfl, rfl⟩
  · obtain ⟨x, rfl⟩ := isT0 hv
    rw [show w = _ from hw]
    exact ⟨rfl, rfl⟩
  · obtain ⟨x, rfl⟩ := isT1 hv
    rw [show w = _ from hw]
    exact ⟨rfl, rfl⟩
  · have hw2 : w = .null ∨ ∃ a, w = .ref a := by
      rcases isT2 hv with rfl | ⟨x, rfl⟩
      · exact Or.inl hw
      · obtain ⟨b, -, hb⟩ := hw
        exact Or.inr ⟨b, hb⟩
    rcases h with ⟨n, rfl⟩ | ⟨x, rfl⟩ <;> rcases hw2 with rfl | ⟨a, rfl⟩ <;> exact ⟨rfl, rfl⟩
  · cases v with
    | int x =>
      rw [show w = _ from hw]
      have hx : x = 0 ∨ x = 1 := by
        have hv : bB (eqI x 0) true (eqI x 1) = true := hv
        cases hz : eqI x 0 with
        | true => exact Or.inl (eqI_iff.mp hz)
        | false =>
          rw [hz] at hv
          exact Or.inr (eqI_iff.mp hv)
      rcases hx with rfl | rfl <;> exact ⟨rfl, rfl⟩
    | _ => cases hv
  · cases v with
    | int x =>
      rw [show w = _ from hw]
      have hv : decide (x.toUInt32.toUInt16.toUInt32.toInt32 = x ∧ 0 ≤ x ∧ x ≤ 65535) = true := hv
      obtain ⟨h1, h2, h3⟩ := of_decide_eq_true hv
      refine ⟨by show Value.int _ = _; rw [h1], ?_⟩
      show (decide (0 ≤ x) && decide (x ≤ 65535)) = true
      simp [h2, h3]
    | _ => cases hv
theorem o_putf {ci j t idx N : Nat} {K ref : String} {T : u_T} {ty : Nat → FieldType} (hc : ClsF ci K T N ty) (hj : j < N) (hl : LinkW M.1.cls idx ref (T j).2.1 (T j).2.2.1) (hs : SameW (T j).1 ref (T j).2.1 (T j).2.2.1) (ht : tyK t (ty j)) (hf : (T j).2.2.2 = false ∨ ((T j).2.2.2 = true ∧ M.1.name = "<init>" ∧ (T j).1 = M.1.cls ∧ Cond.fieldLink M.1.cls idx ref (T j).2.1 (T j).2.2.1 ∈ lw_all)) (hd : decode M.2.1 pc = .ok (.putfield idx, 3)) : OpS I M C pc (pc + 3) (i_putf ci j t) := by
  refine OpS.wr I fun cf jmp nxt lo sk α nx k n res h => ?_
  obtain ⟨v, r, rfl, h1⟩ := pV_some h
  obtain ⟨a, r, rfl, h2⟩ := pR_some h1
  obtain ⟨cell, hg, h3⟩ := oG_some h2
  obtain ⟨hci, h4⟩ := gB_some h3
  obtain ⟨hok, h5⟩ := gB_some h4
  obtain ⟨old, hold, h6⟩ := oG_some h5
  refine ⟨_, _, h6, fun p l e R s m args below meth c Q G H locs ls cells slots ad rst hC hE hS hH hr => ?_⟩
  obtain ⟨wv, us, rfl, hwv, w, us, rfl, hw, hr⟩ := hr
  have e1 := Nat.eq_of_beq_eq_true hci
  obtain ⟨ws, x, en, rfl, hlt, b1, b2, b3, b4, b5, b6⟩ := hH.at hg (not200 hci (by have := hc.1; omega)) hw
  obtain ⟨vs, rfl, hvs⟩ := b5.obj (by rw [e1]; exact hc.1)
  rw [nth_eq] at hold
  have hlen : j < vs.length := by rw [hvs.len]; exact (List.getElem?_eq_some_iff.mp hold).1
  obtain ⟨hn, hfit⟩ := okF_spec ht hok hwv
  rw [e1] at b4
  refine ⟨us, hr, fun kk => ?_⟩
  obtain ⟨c1, c2, c3, c4, c5, c6, c7, c8, c9, c10⟩ := hC
  have K2 : ∀ (H1 : Heap) (locs1 : List Loc), va_P (gD G) vwCl (ws.set a (x, .inr (ci, vs.set j wv))) H1 → va_D (OA (gb G)) (ws.set a (x, .inr (ci, vs.set j wv))) → va_S (OA (gb G)) s.heap H1 locs1 → W p l e R s m args below meth c H1 locs1 cells slots Q (F0 m (pc + 3) ls us) := fun H1 locs1 p1 p2 p3 =>
    kk H1 locs1 p3 (RH.put hg hlt b1 b4 b6 p1 p2 (Or.inl ⟨hc.1, _, rfl, by rw [upx_eq]; exact RVs.set hwv hvs j⟩))
  rcases hf with hf | ⟨hf, hin, hdecl, hl2⟩
  · rcases hl with hl | ⟨host, hl⟩
    · exact va_put c1 c2 c6 hc.2.2.1 ty hc.2.2.2.1 hc.2.2.2.2 c5 hE.1 b2 b3 hS a b4 hc.2.1 j hj (c6 _ hl) (hs.use c6) hf (hc.2.2.2.1 j hj) hn hfit hlen hd K2
    · exact va_putN c1 c2 c6 hc.2.2.1 ty hc.2.2.2.1 hc.2.2.2.2 c5 hE.1 b2 b3 hS a b4 hc.2.1 j hj (hE.2.1.use hl) (hs.use c6) hf (hc.2.2.2.1 j hj) hn hfit hlen hd K2
  · exact va_putF c1 c2 c6 hc.2.2.1 ty hc.2.2.2.1 hc.2.2.2.2 c5 hE.1 b2 b3 hS a b4 hc.2.1 j hj (c6 _ hl2) (hs.use c6) hf (by rw [c9]; exact hin) hdecl (hc.2.2.2.1 j hj) hn hfit hlen hd K2
end HOPS
