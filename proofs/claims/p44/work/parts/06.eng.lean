/-! ===== the engine: an abstract machine over lists; what it answers, the machine does ===== -/
abbrev AC : Type := Nat × List Value
abbrev AH : Type := List (List AC)
/-- how it ended (0 paused, 1 returned, 2 threw), where or what, the answer, then locals, stack, heap, next key, cells, slots -/
abbrev RS : Type := Nat × Nat × Option Value × List Value × List Value × AH × Nat × Nat × Nat
abbrev KK : Type := List Value → List Value → AH → Nat → Nat → Nat → Option RS
abbrev CF : Type := Nat → List Value → AH → Nat → Option RS
abbrev OP : Type := CF → (Nat → KK) → KK → KK
/-- a method: name, bytes, locals, type of its answer, handlers -/
abbrev MI : Type := MethodName × ByteArray × Nat × Option FieldType × List (Nat × Nat × Nat × Nat)
def rA (r : RS) : AH := r.2.2.2.2.2.1
def rX (r : RS) : Nat := r.2.2.2.2.2.2.1
def rK (r : RS) : Nat := r.2.2.2.2.2.2.2.1
def rN (r : RS) : Nat := r.2.2.2.2.2.2.2.2
noncomputable def nth {α : Type} (l : List α) : Nat → Option α := List.rec (motive := fun _ => Nat → Option α) (fun _ => none) (fun a _ ih n => Nat.rec (motive := fun _ => Option α) (some a) (fun m _ => ih m) n) l
theorem nth_eq {α : Type} (l : List α) (n : Nat) : nth l n = l[n]? := by
  induction l generalizing n with
  | nil => rfl
  | cons a l ih =>
    cases n with
    | zero => rfl
    | succ n =>
      show nth l n = (a :: l)[n + 1]?
      rw [ih n]
      rfl
noncomputable def upx {α : Type} (l : List α) : Nat → α → List α := List.rec (motive := fun _ => Nat → α → List α) (fun _ _ => []) (fun a t ih n v => Nat.rec (motive := fun _ => List α) (v :: t) (fun m _ => a :: ih m v) n) l
theorem upx_eq {α : Type} (l : List α) (n : Nat) (v : α) : upx l n v = l.set n v := by
  induction l generalizing n with
  | nil => rfl
  | cons a l ih =>
    cases n with
    | zero => rfl
    | succ n =>
      show a :: upx l n v = (a :: l).set (n + 1) v
      rw [ih n]
      rfl
noncomputable def drp {α : Type} : Nat → List α → List α := Nat.rec (motive := fun _ => List α → List α) (fun l => l) (fun _ ih l => List.rec (motive := fun _ => List α) [] (fun _ t _ => ih t) l)
theorem drp_eq {α : Type} (n : Nat) (l : List α) : drp n l = l.drop n := by
  induction n generalizing l with
  | zero => rfl
  | succ n ih =>
    cases l with
    | nil => rfl
    | cons a t =>
      show drp n t = (a :: t).drop (n + 1)
      rw [ih t]
      rfl
def pI {β : Type} (sk : List Value) (f : Int32 → List Value → Option β) : Option β := match sk with
  | .int x :: r => f x r
  | _ => none
def pL {β : Type} (sk : List Value) (f : Int64 → List Value → Option β) : Option β := match sk with
  | .long x :: r => f x r
  | _ => none
def pF {β : Type} (sk : List Value) (f : UInt32 → List Value → Option β) : Option β := match sk with
  | .float x :: r => f x r
  | _ => none
def pR {β : Type} (sk : List Value) (f : Nat → List Value → Option β) : Option β := match sk with
  | .ref x :: r => f x r
  | _ => none
def pV {β : Type} (sk : List Value) (f : Value → List Value → Option β) : Option β := match sk with
  | x :: r => f x r
  | _ => none
theorem pI_some {β : Type} {sk : List Value} {f : Int32 → List Value → Option β} {b : β} (h : pI sk f = some b) : ∃ x r, sk = .int x :: r ∧ f x r = some b := by
  unfold pI at h
  split at h
  · exact ⟨_, _, rfl, h⟩
  · cases h
theorem pL_some {β : Type} {sk : List Value} {f : Int64 → List Value → Option β} {b : β} (h : pL sk f = some b) : ∃ x r, sk = .long x :: r ∧ f x r = some b := by
  unfold pL at h
  split at h
  · exact ⟨_, _, rfl, h⟩
  · cases h
theorem pF_some {β : Type} {sk : List Value} {f : UInt32 → List Value → Option β} {b : β} (h : pF sk f = some b) : ∃ x r, sk = .float x :: r ∧ f x r = some b := by
  unfold pF at h
  split at h
  · exact ⟨_, _, rfl, h⟩
  · cases h
theorem pR_some {β : Type} {sk : List Value} {f : Nat → List Value → Option β} {b : β} (h : pR sk f = some b) : ∃ (x : Nat) (r : List Value), sk = .ref x :: r ∧ f x r = some b := by
  unfold pR at h
  split at h
  · exact ⟨_, _, rfl, h⟩
  · cases h
theorem pV_some {β : Type} {sk : List Value} {f : Value → List Value → Option β} {b : β} (h : pV sk f = some b) : ∃ x r, sk = x :: r ∧ f x r = some b := by
  unfold pV at h
  split at h
  · exact ⟨_, _, rfl, h⟩
  · cases h
def gB {β : Type} (b : Bool) (k : Option β) : Option β := match b with
  | true => k
  | false => none
theorem gB_some {β : Type} {b : Bool} {k : Option β} {x : β} (h : gB b k = some x) : b = true ∧ k = some x := by
  cases b
  · cases h
  · exact ⟨rfl, h⟩
def oG {α β : Type} (o : Option α) (f : α → Option β) : Option β := match o with
  | some x => f x
  | none => none
theorem oG_some {α β : Type} {o : Option α} {f : α → Option β} {b : β} (h : oG o f = some b) : ∃ x, o = some x ∧ f x = some b := by
  cases o with
  | none => cases h
  | some x => exact ⟨x, rfl, h⟩
def bB {β : Type} (b : Bool) (t f : β) : β := match b with
  | true => t
  | false => f
/-- what kind of value: 0 int, 1 long, 2 a reference or null, 3 float -/
def isT (t : Nat) (v : Value) : Bool := match v with
  | .int _ => Nat.beq t 0
  | .long _ => Nat.beq t 1
  | .ref _ => Nat.beq t 2
  | .null => Nat.beq t 2
  | .float _ => Nat.beq t 3
  | _ => false
def cat2 (v : Value) : Bool := match v with
  | .long _ => true
  | .double _ => true
  | _ => false
theorem cat2_t {v : Value} (h : cat2 v = true) : v.category = 2 := by cases v <;> first | rfl | cases h
theorem cat2_f {v : Value} (h : cat2 v = false) : v.category = 1 := by cases v <;> first | rfl | cases h
def kn (v : Value) : Bool := match v with
  | .retAddr _ => false
  | _ => true
abbrev uns : Value := .retAddr 0
theorem isT0 {v : Value} (h : isT 0 v = true) : ∃ x, v = .int x := by cases v <;> first | exact ⟨_, rfl⟩ | cases h
theorem isT1 {v : Value} (h : isT 1 v = true) : ∃ x, v = .long x := by cases v <;> first | exact ⟨_, rfl⟩ | cases h
theorem isT2 {v : Value} (h : isT 2 v = true) : v = .null ∨ ∃ x, v = .ref x := by cases v <;> first | exact Or.inl rfl | exact Or.inr ⟨_, rfl⟩ | cases h
theorem isT3 {v : Value} (h : isT 3 v = true) : ∃ x, v = .float x := by cases v <;> first | exact ⟨_, rfl⟩ | cases h
noncomputable def kil (lo : List Value) (i : Nat) : List Value := match nth lo i with
  | some v => bB (cat2 v) (upx lo i uns) lo
  | none => lo
noncomputable def lst1 (lo : List Value) (i : Nat) (v : Value) : List Value := Nat.rec (motive := fun _ => List Value) (upx lo 0 v) (fun j _ => upx (kil lo j) (j + 1) v) i
noncomputable def lst2 (lo : List Value) (i : Nat) (v : Value) : List Value := upx (lst1 lo i v) (i + 1) uns
/-! heap: rows of sixteen -/
noncomputable def hget (α : AH) (k : Nat) : Option AC := match nth α (k / 16) with
  | some r => nth r (k % 16)
  | none => none
noncomputable def hput (α : AH) (k : Nat) (c : AC) : AH := match nth α (k / 16) with
  | some r => upx α (k / 16) (upx r (k % 16) c)
  | none => α
noncomputable def hadd (α : AH) (k : Nat) (c : AC) : Option AH := match nth α (k / 16) with
  | some r => gB (Nat.beq r.length (k % 16)) (some (upx α (k / 16) (r ++ [c])))
  | none => gB (Nat.beq α.length (k / 16)) (gB (Nat.beq (k % 16) 0) (some (α ++ [[c]])))
theorem hget_eq (α : AH) (k : Nat) : hget α k = (α[k / 16]?).bind (fun r => r[k % 16]?) := by
  unfold hget
  rw [nth_eq]
  cases α[k / 16]? with
  | none => rfl
  | some r => exact nth_eq r _
theorem hput_get {α : AH} {k : Nat} {c c0 : AC} (h : hget α k = some c0) (j : Nat) : hget (hput α k c) j = if j = k then some c else hget α j := by
  rw [hget_eq] at h
  unfold hput
  rw [nth_eq]
  cases hr : α[k / 16]? with
  | none => rw [hr] at h; cases h
  | some r =>
    rw [hr] at h
    have h : r[k % 16]? = some c0 := h
    show hget (upx α (k / 16) (upx r (k % 16) c)) j = _
    rw [hget_eq, hget_eq, upx_eq, upx_eq]
    have hl : k / 16 < α.length := (List.getElem?_eq_some_iff.mp hr).1
    have hm : k % 16 < r.length := (List.getElem?_eq_some_iff.mp h).1
    by_cases e : j / 16 = k / 16
    · rw [e, List.getElem?_set_self hl]
      by_cases f : j % 16 = k % 16
      · have : j = k := by omega
        rw [if_pos this, f]
        show (r.set (k % 16) c)[k % 16]? = _
        rw [List.getElem?_set_self hm]
      · rw [if_neg (fun z => f (by rw [z])), hr]
        show (r.set (k % 16) c)[j % 16]? = r[j % 16]?
        rw [List.getElem?_set_ne (fun z => f z.symm)]
    · rw [if_neg (fun z => e (by rw [z])), List.getElem?_set_ne (fun z => e z.symm)]
theorem hadd_get {α α' : AH} {k : Nat} {c : AC} (h : hadd α k c = some α') : hget α k = none ∧ ∀ j, hget α' j = if j = k then some c else hget α j := by
  unfold hadd at h
  rw [nth_eq] at h
  cases hr : α[k / 16]? with
  | some r =>
    rw [hr] at h
    obtain ⟨e1, h⟩ := gB_some h
    have e1 := Nat.eq_of_beq_eq_true e1
    have h := (Option.some.inj h).symm
    have hl : k / 16 < α.length := (List.getElem?_eq_some_iff.mp hr).1
    refine ⟨?_, fun j => ?_⟩
    · rw [hget_eq, hr]
      show r[k % 16]? = none
      rw [← e1]
      simp
    · subst h
      rw [hget_eq, hget_eq, upx_eq]
      by_cases e : j / 16 = k / 16
      · rw [e, List.getElem?_set_self hl, hr]
        by_cases f : j % 16 = k % 16
        · have : j = k := by omega
          rw [if_pos this, f, ← e1]
          show (r ++ [c])[r.length]? = _
          simp
        · rw [if_neg (fun z => f (by rw [z]))]
          show (r ++ [c])[j % 16]? = r[j % 16]?
          rcases Nat.lt_or_ge (j % 16) r.length with z | z
          · rw [List.getElem?_append_left z]
          · rw [List.getElem?_append_right z, List.getElem?_eq_none z]
            have : 1 ≤ j % 16 - r.length := by omega
            exact List.getElem?_eq_none (by simpa using this)
      · rw [if_neg (fun z => e (by rw [z])), List.getElem?_set_ne (fun z => e z.symm)]
  | none =>
    rw [hr] at h
    obtain ⟨e1, h⟩ := gB_some h
    obtain ⟨e2, h⟩ := gB_some h
    have e1 := Nat.eq_of_beq_eq_true e1
    have e2 := Nat.eq_of_beq_eq_true e2
    have h := (Option.some.inj h).symm
    refine ⟨?_, fun j => ?_⟩
    · rw [hget_eq, hr]
      rfl
    · subst h
      rw [hget_eq, hget_eq]
      by_cases e : j / 16 = k / 16
      · rw [e, hr, ← e1]
        have e3 : (α ++ [[c]])[α.length]? = some [c] := by simp
        rw [e3]
        by_cases f : j % 16 = 0
        · have : j = k := by omega
          rw [if_pos this, f]
          rfl
        · rw [if_neg (fun z => f (by rw [z]; exact e2))]
          show [c][j % 16]? = none
          exact List.getElem?_eq_none (by simp; omega)
      · rw [if_neg (fun z => e (by rw [z]))]
        rcases Nat.lt_or_ge (j / 16) α.length with z | z
        · rw [List.getElem?_append_left z]
        · rw [List.getElem?_append_right z, List.getElem?_eq_none z]
          have : 1 ≤ j / 16 - α.length := by omega
          rw [List.getElem?_eq_none (by simpa using this)]
/-! what an abstract value stands for: keys for addresses; five keys of objects that stand from the start -/
def PX (a b : List Nat) : Prop := ∃ t, b = a ++ t
theorem PX.rf {a : List Nat} : PX a a := ⟨[], by simp⟩
theorem PX.tr {a b c : List Nat} (h : PX a b) (g : PX b c) : PX a c := by
  obtain ⟨t, rfl⟩ := h
  obtain ⟨u, rfl⟩ := g
  exact ⟨t ++ u, by simp⟩
theorem PX.at {a b : List Nat} (h : PX a b) {k x : Nat} (hk : a[k]? = some x) : b[k]? = some x := by
  obtain ⟨t, rfl⟩ := h
  rw [List.getElem?_append_left (List.getElem?_eq_some_iff.mp hk).1]
  exact hk
def lk (ad : List Nat) (sp : Nat → Nat) (k : Nat) : Option Nat := if k < 1000000 then ad[k]? else if k < 1000005 then some (sp (k - 1000000)) else none
theorem lk.mono {ad ad' : List Nat} {sp : Nat → Nat} (h : PX ad ad') {k a : Nat} (hk : lk ad sp k = some a) : lk ad' sp k = some a := by
  unfold lk at hk ⊢
  split at hk
  · rename_i z
    rw [if_pos z]
    exact h.at hk
  · rename_i z
    rw [if_neg z]
    exact hk
def RV (ad : List Nat) (sp : Nat → Nat) (v w : Value) : Prop := match v with
  | .ref k => ∃ a, lk ad sp k = some a ∧ w = .ref a
  | x => w = x
theorem RV.mono {ad ad' : List Nat} {sp : Nat → Nat} (h : PX ad ad') {v w : Value} (hv : RV ad sp v w) : RV ad' sp v w := by
  cases v with
  | ref k =>
    obtain ⟨a, h1, h2⟩ := hv
    exact ⟨a, lk.mono h h1, h2⟩
  | _ => exact hv
theorem RV.cat {ad : List Nat} {sp : Nat → Nat} {v w : Value} (h : RV ad sp v w) : w.category = v.category := by
  cases v with
  | ref k =>
    obtain ⟨a, -, rfl⟩ := h
    rfl
  | _ => rw [show w = _ from h]
def RVs (ad : List Nat) (sp : Nat → Nat) : List Value → List Value → Prop
  | [], ws => ws = []
  | v :: vs, ws => ∃ w us, ws = w :: us ∧ RV ad sp v w ∧ RVs ad sp vs us
theorem RVs.mono {ad ad' : List Nat} {sp : Nat → Nat} (h : PX ad ad') : ∀ {vs ws : List Value}, RVs ad sp vs ws → RVs ad' sp vs ws
  | [], _, hv => hv
  | _ :: _, _, ⟨w, us, e, h1, h2⟩ => ⟨w, us, e, h1.mono h, RVs.mono h h2⟩
theorem RVs.app {ad : List Nat} {sp : Nat → Nat} : ∀ {vs us : List Value} {ws xs : List Value}, RVs ad sp vs ws → RVs ad sp us xs → RVs ad sp (vs ++ us) (ws ++ xs)
  | [], _, _, _, hv, hu => by
    have hv : _ = [] := hv
    subst hv
    exact hu
  | _ :: _, _, _, _, ⟨w, us, e, h1, h2⟩, hu => by
    subst e
    exact ⟨w, _, rfl, h1, RVs.app h2 hu⟩
theorem RVs.split {ad : List Nat} {sp : Nat → Nat} : ∀ {vs us : List Value} {ws : List Value}, RVs ad sp (vs ++ us) ws → ∃ a b, ws = a ++ b ∧ RVs ad sp vs a ∧ RVs ad sp us b
  | [], _, ws, h => ⟨[], ws, rfl, rfl, h⟩
  | _ :: _, _, _, ⟨w, t, e, h1, h2⟩ => by
    obtain ⟨a, b, e2, h3, h4⟩ := RVs.split h2
    subst e e2
    exact ⟨w :: a, b, rfl, ⟨w, a, rfl, h1, h3⟩, h4⟩
theorem RVs.len {ad : List Nat} {sp : Nat → Nat} : ∀ {vs ws : List Value}, RVs ad sp vs ws → ws.length = vs.length
  | [], _, h => by
    have h : _ = [] := h
    subst h
    rfl
  | _ :: _, _, ⟨w, us, e, _, h2⟩ => by
    subst e
    simp [RVs.len h2]
theorem RVs.rev {ad : List Nat} {sp : Nat → Nat} : ∀ {vs ws : List Value}, RVs ad sp vs ws → RVs ad sp vs.reverse ws.reverse
  | [], _, h => by
    have h : _ = [] := h
    subst h
    rfl
  | _ :: _, _, ⟨w, us, e, h1, h2⟩ => by
    subst e
    simp only [List.reverse_cons]
    exact RVs.app (RVs.rev h2) ⟨w, [], rfl, h1, rfl⟩
theorem RVs.at {ad : List Nat} {sp : Nat → Nat} : ∀ {vs ws : List Value}, RVs ad sp vs ws → ∀ {i : Nat} {v : Value}, vs[i]? = some v → ∃ w, ws[i]? = some w ∧ RV ad sp v w
  | [], _, _, _, _, hv => by simp at hv
  | _ :: _, _, ⟨w, us, e, h1, h2⟩, 0, _, hv => by
    subst e
    have := Option.some.inj hv
    subst this
    exact ⟨w, rfl, h1⟩
  | _ :: _, _, ⟨w, us, e, h1, h2⟩, i + 1, v, hv => by
    subst e
    exact RVs.at h2 (i := i) hv
theorem RVs.set {ad : List Nat} {sp : Nat → Nat} {v w : Value} (hv : RV ad sp v w) : ∀ {vs ws : List Value}, RVs ad sp vs ws → ∀ (i : Nat), RVs ad sp (vs.set i v) (ws.set i w)
  | [], _, h, _ => by
    have h : _ = [] := h
    subst h
    rfl
  | _ :: _, _, ⟨w0, us, e, h1, h2⟩, 0 => by
    subst e
    exact ⟨w, us, rfl, hv, h2⟩
  | _ :: _, _, ⟨w0, us, e, h1, h2⟩, i + 1 => by
    subst e
    exact ⟨w0, us.set i w, rfl, h1, RVs.set hv h2 i⟩
noncomputable def catS (vs : List Value) : Nat := List.rec (motive := fun _ => Nat) 0 (fun v _ ih => bB (cat2 v) (ih + 2) (ih + 1)) vs
theorem RVs.csum {ad : List Nat} {sp : Nat → Nat} : ∀ {vs ws : List Value}, RVs ad sp vs ws → (ws.map fun v => v.category).sum = catS vs
  | [], _, h => by
    have h : _ = [] := h
    subst h
    rfl
  | v :: vs, _, ⟨w, us, e, h1, h2⟩ => by
    subst e
    have h3 := RVs.csum h2
    show _ = bB (cat2 v) (catS vs + 2) (catS vs + 1)
    simp only [List.map_cons, List.sum_cons, h3, h1.cat]
    cases hc : cat2 v with
    | true => rw [cat2_t hc]; exact Nat.add_comm _ _
    | false => rw [cat2_f hc]; exact Nat.add_comm _ _
/-! locals by place; .retAddr where nothing is known -/
def RLo (ad : List Nat) (sp : Nat → Nat) (lo : List Value) (ls : Array Slot) (nL : Nat) : Prop :=
  ls.size = nL ∧ lv_wf ls ∧ ∀ (i : Nat) (v : Value), lo[i]? = some v → kn v = true → ∃ w, RV ad sp v w ∧ ls[i]? = some (.val w)
theorem RLo.mono {ad ad' : List Nat} {sp : Nat → Nat} (h : PX ad ad') {lo : List Value} {ls : Array Slot} {nL : Nat} (hl : RLo ad sp lo ls nL) : RLo ad' sp lo ls nL :=
  ⟨hl.1, hl.2.1, fun i v hi hk => by
    obtain ⟨w, h1, h2⟩ := hl.2.2 i v hi hk
    exact ⟨w, h1.mono h, h2⟩⟩
def allv (ls : Array Slot) : List (Nat × Value) := (List.range ls.size).filterMap (fun (i : Nat) => match (ls[i]? : Option Slot) with
  | some (Slot.val w) => some (i, w)
  | _ => none)
theorem allv_has {ls : Array Slot} (hw : lv_wf ls) : lv_has ls ls.size (allv ls) := by
  refine ⟨rfl, hw, fun q hq => ?_⟩
  unfold allv at hq
  obtain ⟨i, -, hi⟩ := List.mem_filterMap.mp hq
  split at hi
  · rename_i w hw2
    have := Option.some.inj hi
    subst this
    exact hw2
  · cases hi
theorem allv_in {ls : Array Slot} {i : Nat} {w : Value} (h : ls[i]? = some (.val w)) : (i, w) ∈ allv ls := by
  unfold allv
  refine List.mem_filterMap.mpr ⟨i, List.mem_range.mpr (Array.getElem?_eq_some_iff.mp h).1, ?_⟩
  rw [h]
theorem kil_get {lo : List Value} {j i : Nat} {v : Value} (h : (kil lo j)[i]? = some v) (hk : kn v = true) : lo[i]? = some v ∧ (i = j → cat2 v = false) := by
  unfold kil at h
  rw [nth_eq] at h
  cases hj : lo[j]? with
  | none =>
    rw [hj] at h
    have h : lo[i]? = some v := h
    exact ⟨h, fun e => by rw [e, hj] at h; cases h⟩
  | some x =>
    rw [hj] at h
    have h : (bB (cat2 x) (upx lo j uns) lo)[i]? = some v := h
    cases hc : cat2 x with
    | false =>
      rw [hc] at h
      have h : lo[i]? = some v := h
      exact ⟨h, fun e => by rw [e, hj] at h; cases h; exact hc⟩
    | true =>
      rw [hc] at h
      have h : (upx lo j uns)[i]? = some v := h
      rw [upx_eq] at h
      by_cases e : j = i
      · subst e
        rw [List.getElem?_set_self (List.getElem?_eq_some_iff.mp hj).1] at h
        cases h
        cases hk
      · rw [List.getElem?_set_ne e] at h
        exact ⟨h, fun e2 => absurd e2.symm e⟩
theorem lst1_get {lo : List Value} {i j : Nat} {v x : Value} (h : (lst1 lo i v)[j]? = some x) (hk : kn x = true) : (j = i ∧ x = v) ∨ (j ≠ i ∧ lo[j]? = some x ∧ (j + 1 = i → cat2 x = false)) := by
  cases i with
  | zero =>
    have h : (upx lo 0 v)[j]? = some x := h
    rw [upx_eq] at h
    by_cases e : j = 0
    · subst e
      rcases Nat.lt_or_ge 0 lo.length with z | z
      · rw [List.getElem?_set_self z] at h
        exact Or.inl ⟨rfl, (Option.some.inj h).symm⟩
      · rw [List.getElem?_eq_none (by simpa using z)] at h
        cases h
    · rw [List.getElem?_set_ne (fun z => e z.symm)] at h
      exact Or.inr ⟨e, h, fun z => by omega⟩
  | succ i =>
    have h : (upx (kil lo i) (i + 1) v)[j]? = some x := h
    rw [upx_eq] at h
    by_cases e : j = i + 1
    · subst e
      rcases Nat.lt_or_ge (i + 1) (kil lo i).length with z | z
      · rw [List.getElem?_set_self z] at h
        exact Or.inl ⟨rfl, (Option.some.inj h).symm⟩
      · rw [List.getElem?_eq_none (by simpa using z)] at h
        cases h
    · rw [List.getElem?_set_ne (fun z => e z.symm)] at h
      obtain ⟨h1, h2⟩ := kil_get h hk
      exact Or.inr ⟨e, h1, fun z => h2 (by omega)⟩
theorem RLo.st1 {ad : List Nat} {sp : Nat → Nat} {lo : List Value} {ls ls' : Array Slot} {nL i : Nat} {v w : Value} (h : RLo ad sp lo ls nL) (hv : RV ad sp v w)
    (h' : lv_has ls' nL ((i, w) :: (allv ls).filter (fun q => !(q.1 == i) && !(q.1 + 1 == i && q.2.category == 2)))) : RLo ad sp (lst1 lo i v) ls' nL := by
  refine ⟨h'.1, h'.2.1, fun j x hj hk => ?_⟩
  rcases lst1_get hj hk with ⟨rfl, rfl⟩ | ⟨h1, h2, h3⟩
  · exact ⟨w, hv, h'.2.2 (j, w) List.mem_cons_self⟩
  · obtain ⟨u, g1, g2⟩ := h.2.2 j x h2 hk
    refine ⟨u, g1, h'.2.2 (j, u) (List.mem_cons_of_mem _ (List.mem_filter.mpr ⟨allv_in g2, ?_⟩))⟩
    have e1 : (j == i) = false := by simpa using h1
    have e2 : (j + 1 == i && u.category == 2) = false := by
      by_cases z : j + 1 = i
      · have := cat2_f (h3 z)
        rw [g1.cat, this]
        simp
      · simp [z]
    simp only [e1, e2]
    decide
theorem RLo.st2 {ad : List Nat} {sp : Nat → Nat} {lo : List Value} {ls ls' : Array Slot} {nL i : Nat} {v w : Value} (h : RLo ad sp lo ls nL) (hv : RV ad sp v w)
    (h' : lv_has ls' nL ((i, w) :: (allv ls).filter (fun q => !(q.1 == i) && (!(q.1 == i + 1) && !(q.1 + 1 == i && q.2.category == 2))))) : RLo ad sp (lst2 lo i v) ls' nL := by
  refine ⟨h'.1, h'.2.1, fun j x hj hk => ?_⟩
  unfold lst2 at hj
  rw [upx_eq] at hj
  have hne : j ≠ i + 1 := by
    intro z
    subst z
    rcases Nat.lt_or_ge (i + 1) (lst1 lo i v).length with z | z
    · rw [List.getElem?_set_self z] at hj
      cases hj
      cases hk
    · rw [List.getElem?_eq_none (by simpa using z)] at hj
      cases hj
  rw [List.getElem?_set_ne (fun z => hne z.symm)] at hj
  rcases lst1_get hj hk with ⟨rfl, rfl⟩ | ⟨h1, h2, h3⟩
  · exact ⟨w, hv, h'.2.2 (j, w) List.mem_cons_self⟩
  · obtain ⟨u, g1, g2⟩ := h.2.2 j x h2 hk
    refine ⟨u, g1, h'.2.2 (j, u) (List.mem_cons_of_mem _ (List.mem_filter.mpr ⟨allv_in g2, ?_⟩))⟩
    have e1 : (j == i) = false := by simpa using h1
    have e2 : (j == i + 1) = false := by simpa using hne
    have e3 : (j + 1 == i && u.category == 2) = false := by
      by_cases z : j + 1 = i
      · rw [g1.cat, cat2_f (h3 z)]
        simp
      · simp [z]
    simp only [e1, e2, e3]
    decide
/-! cells -/
abbrev C3 : Type := ClassId × ClassId × ClassId
def RE (ad : List Nat) (sp : Nat → Nat) (c3 : C3) (c : AC) (e : va_E) : Prop :=
  (c.1 < 100 ∧ ∃ vs, e = .inr (c.1, vs) ∧ RVs ad sp c.2 vs) ∨
  (c.1 = 100 ∧ ∃ f : Nat → Int32, e = .inl (c3.1, c.2.length, .inl f) ∧ ∀ (j : Nat) (v : Value), c.2[j]? = some v → v = .int (f j)) ∨
  (c.1 = 101 ∧ ∃ f : Nat → Int64, e = .inl (c3.2.1, c.2.length, .inr (.inl f)) ∧ ∀ (j : Nat) (v : Value), c.2[j]? = some v → v = .long (f j)) ∨
  (c.1 = 102 ∧ ∃ f : Nat → Option Nat, e = .inl (c3.2.2, c.2.length, .inr (.inr (.inr (.inr f)))) ∧ ∀ (j : Nat) (v : Value), c.2[j]? = some v → RV ad sp v (va_rf (f j)))
theorem RE.mono {ad ad' : List Nat} {sp : Nat → Nat} {c3 : C3} (h : PX ad ad') {c : AC} {e : va_E} (hv : RE ad sp c3 c e) : RE ad' sp c3 c e := by
  rcases hv with ⟨h1, vs, h2, h3⟩ | h1 | h1 | ⟨h1, f, h2, h3⟩
  · exact Or.inl ⟨h1, vs, h2, h3.mono h⟩
  · exact Or.inr (Or.inl h1)
  · exact Or.inr (Or.inr (Or.inl h1))
  · exact Or.inr (Or.inr (Or.inr ⟨h1, f, h2, fun j v hj => (h3 j v hj).mono h⟩))
/-- the heap holds what the rows say; a cell of tag 200 is one of which nothing is known -/
def RH (D : va_G) (c3 : C3) (A : Nat → Prop) (ad : List Nat) (sp : Nat → Nat) (α : AH) (H : Heap) : Prop :=
  ∃ ws : va_W, ws.map (·.1) = ad ∧ va_P D vwCl ws H ∧ va_D A ws ∧ ∀ (k : Nat) (c : AC), hget α k = some c → c.1 ≠ 200 → k < 1000000 ∧ ∃ q, ws[k]? = some q ∧ RE ad sp c3 c q.2
abbrev OA (base : Nat) : Nat → Prop := fun q => base ≤ q
/-- base, numbers of the tables, array kinds, the five objects -/
abbrev GP : Type := Nat × va_G × C3 × (Nat → Nat)
/-- the methods, and the script: how long, its ints -/
abbrev EVT : Type := (Nat → Option MI) × Nat × (Nat → Int32)
abbrev gb (G : GP) : Nat := G.1
abbrev gD (G : GP) : va_G := G.2.1
abbrev gc (G : GP) : C3 := G.2.2.1
abbrev gs (G : GP) : Nat → Nat := G.2.2.2
/-- the four statics: three soils and the empty row -/
def stC (i : Nat) : String := match i with
  | 3 => "java/util/ArrayList"
  | _ => "LysimeterField$Soil"
def stN (i : Nat) : String := match i with
  | 0 => "SAND"
  | 1 => "LOAM"
  | 2 => "CLAY"
  | _ => "DEFAULTCAPACITY_EMPTY_ELEMENTDATA"
def stD (i : Nat) : String := match i with
  | 3 => "[Ljava/lang/Object;"
  | _ => "LLysimeterField$Soil;"
def soN (k : Nat) : String := match k with
  | 0 => "capacity"
  | 1 => "field"
  | 2 => "wilting"
  | 3 => "intake"
  | _ => "drain"
def soV (k i : Nat) : Int32 := match k with
  | 0 => (match i with | 0 => 35 | 1 => 45 | _ => 50)
  | 1 => (match i with | 0 => 10 | 1 => 25 | _ => 38)
  | 2 => (match i with | 0 => 4 | 1 => 10 | _ => 22)
  | 3 => (match i with | 0 => 200 | 1 => 50 | _ => 5)
  | _ => (match i with | 0 => 50 | 1 => 25 | _ => 10)
def xnm (i : Nat) : String := match i with
  | 0 => "java/lang/IndexOutOfBoundsException"
  | 1 => "java/lang/IllegalArgumentException"
  | 2 => "java/lang/IllegalStateException"
  | 3 => "java/lang/UnsupportedOperationException"
  | 4 => "java/util/NoSuchElementException"
  | _ => "java/lang/ArithmeticException"
def SE (I : EVT) (G : GP) (U : State) (H : Heap) : Prop :=
  va_K (gD G) vwCl [((gc G).1, .int), ((gc G).2.1, .long), ((gc G).2.2, .object "java/lang/Object")] U ∧ GE U ∧ ZZ (OA (gb G)) U H ∧ va_AO "java/lang/Object" U ∧
  (∀ i, i < 5 → gs G i < gb G) ∧ (∀ i j, i < 4 → j < 4 → gs G i = gs G j → i = j) ∧ (∀ i, i < 4 → va_Z (stC i) (stN i) (stD i) (.ref (gs G i)) (OA (gb G)) U H) ∧
  va_T (.object "java/lang/Object") (gs G 3) 0 (fun _ => .null) (OA (gb G)) U H ∧ (∀ k, k < 5 → va_Ef 3 "LysimeterField$Soil" (soN k) "I" (fun i => .int (soV k i)) (gs G) (OA (gb G)) U H) ∧
  va_X (gs G 4) I.2.1 I.2.2 U H ∧ gb G ≤ H.size ∧ ∀ i j, i < 6 → j < 6 → i ≠ j → va_Nc (xnm i) (xnm j) U
theorem SE.moved {I : EVT} {G : GP} {u U : State} {H : Heap} (hW : u.WarmedH U.vm) (h : SE I G u H) : SE I G U H := by
  obtain ⟨h1, h2, h3, h4, h5, h6, h7, h8, h9, h10, h11, h12⟩ := h
  exact ⟨va_K.moved hW.alike h1, GE.warm hW h2, ZZ.moved hW.alike h3, va_AO.moved hW.alike h4, h5, h6, fun i hi => va_Z.moved hW.alike (h7 i hi), va_T.moved hW.alike h8, fun k hk => va_Ef.moved hW.alike (h9 k hk), va_X.moved hW.alike h10, h11, fun i j a b c => va_Nc.moved hW.alike (h12 i j a b c)⟩
theorem SE.same {I : EVT} {G : GP} {u U : State} {H : Heap} (hv : u.vm = U.vm) (h : SE I G u H) : SE I G U H := by
  obtain ⟨h1, h2, h3, h4, h5, h6, h7, h8, h9, h10, h11, h12⟩ := h
  have ha : u.vm.Alike U.vm := by rw [hv]; exact Vm.Alike.refl _
  exact ⟨va_K.moved ha h1, GE.same hv h2, ZZ.moved ha h3, va_AO.moved ha h4, h5, h6, fun i hi => va_Z.moved ha (h7 i hi), va_T.moved ha h8, fun k hk => va_Ef.moved ha (h9 k hk), va_X.moved ha h10, h11, fun i j a b c => va_Nc.moved ha (h12 i j a b c)⟩
theorem SE.kept {I : EVT} {G : GP} {U : State} {H H1 : Heap} (h : SE I G U H) (hz : H.size ≤ H1.size) (hq : ∀ a : Nat, a < H.size → ¬ OA (gb G) a → H1[a]? = H[a]?) : SE I G U H1 := by
  obtain ⟨h1, h2, h3, h4, h5, h6, h7, h8, h9, h10, h11, h12⟩ := h
  exact ⟨h1, h2, h3.kept hq, h4, h5, h6, fun i hi => (h7 i hi).kept hq, h8.kept hq, fun k hk => (h9 k hk).kept hq, h10.kept (hq _ (Nat.lt_of_lt_of_le (h5 4 (by decide)) h11) (Nat.not_le.mpr (h5 4 (by decide)))), Nat.le_trans h11 hz, h12⟩
/-- what a walk knows of its method -/
def CX (M : MI) (p : Program) (l : Launch) (s : State) (m : MethodId) (args : Array Value) (meth : Method) (c : Code) : Prop :=
  p.tables.exec = Jvm.exec ∧ c.code = M.2.1 ∧ c.maxLocals = M.2.2.1 ∧ meth.sig.returnType = M.2.2.2.1 ∧ s.vm.findClass M.1.cls = some m.cls ∧ (∀ w ∈ lw_all, w.before args s = true) ∧ meth.locks = false ∧ l.stackTraces = false ∧ meth.name = M.1.name ∧ c.exceptionTable.toList = tableOf M.2.2.2.2
def LV (G : GP) (ad0 : List Nat) (s : State) (nL : Nat) (lo sk : List Value) (α : AH) (nx : Nat) (ad : List Nat) (H : Heap) (locs : List Loc) (ls : Array Slot) (rst : List Value) : Prop :=
  PX ad0 ad ∧ ad.length = nx ∧ va_S (OA (gb G)) s.heap H locs ∧ RH (gD G) (gc G) (OA (gb G)) ad (gs G) α H ∧ RLo ad (gs G) lo ls nL ∧ RVs ad (gs G) sk rst
def WG (p : Program) (l : Launch) (e : Env) (R : Room) (s : State) (m : MethodId) (args : Array Value) (below : List Frame) (meth : Method) (c : Code) (Q : State → Prop) (G : GP) (ad0 : List Nat) (nL : Nat) (res : RS) (pc : Nat) (lo sk : List Value) (α : AH) (nx k n : Nat) : Prop :=
  (k ≤ rK res ∧ n ≤ rN res) ∧ ∀ (ad : List Nat) (H : Heap) (locs : List Loc) (ls : Array Slot) (rst : List Value), LV G ad0 s nL lo sk α nx ad H locs ls rst → W p l e R s m args below meth c H locs k n Q (F0 m pc ls rst)
def RVo (ad : List Nat) (sp : Nat → Nat) (v w : Option Value) : Prop := match v with
  | none => w = none
  | some x => ∃ y, w = some y ∧ RV ad sp x y
def QCr (G : GP) (ad0 : List Nat) (r : RS) : Array Value → State → Outcome → State → Prop := fun _ st o t =>
  (∃ (ad : List Nat) (w : Option Value), r.1 = 1 ∧ o = .returned w ∧ RVo ad (gs G) r.2.2.1 w ∧ PX ad0 ad ∧ ad.length = rX r ∧ RH (gD G) (gc G) (OA (gb G)) ad (gs G) (rA r) t.heap) ∧ va_F (OA (gb G)) st t
def XCr (G : GP) (ad0 : List Nat) (r : RS) : String → State → State → Prop := fun E st t =>
  (∃ ad : List Nat, r.1 = 2 ∧ E = xnm r.2.1 ∧ PX ad0 ad ∧ ad.length = rX r ∧ RH (gD G) (gc G) (OA (gb G)) ad (gs G) (rA r) t.heap) ∧ va_F (OA (gb G)) st t
abbrev rmC (d k n : Nat) : Room := { frames := d + 5, cells := k, slots := n, locals := 128 * d + 100 }
def RO (d : Nat) (R : Room) (r : RS) : Prop := d + 6 ≤ R.frames ∧ 128 * (d + 1) + 100 ≤ R.locals ∧ rK r ≤ R.cells ∧ rN r ≤ R.slots
def wsM (M : MI) : List Cond := (match M.2.2.2.2 with
  | [] => Cond.code M.1 M.2.1 M.2.2.1 M.2.2.2.1
  | hh => Cond.codeWith M.1 M.2.1 M.2.2.1 M.2.2.2.1 hh) :: lw_all
/-- the contract of a call: with arguments av over the heap α, told by r -/
def COK (I : EVT) (M : MI) (d : Nat) (av : List Value) (α : AH) (nx : Nat) (r : RS) : Prop := ∀ (l : Launch) (G : GP) (ad : List Nat) (aw : List Value), l.stackTraces = false → RVs ad (gs G) av aw → ad.length = nx →
  vx_Met l M.1 (wsM M) (rmC d (rK r) (rN r)) (va_Pc aw (fun U => SE I G U U.heap ∧ RH (gD G) (gc G) (OA (gb G)) ad (gs G) α U.heap)) (QCr G ad r) (XCr G ad r) (rK r) (rN r) (OA (gb G))
def HQ (Q : State → Prop) (G : GP) (ad0 : List Nat) (r : RS) (below : List Frame) (args : Array Value) (s : State) : Prop := r.1 ≠ 0 → Q = vx_MQ below (QCr G ad0 r) (XCr G ad0 r) args s (rK r) (rN r) (OA (gb G))
def hdp (l : List (Nat × OP)) : Nat := match l with
  | [] => 0
  | q :: _ => q.1
noncomputable def pcAt (C : List (Nat × OP)) (j : Nat) : Nat := hdp (drp j C)
section ENG1
variable (I : EVT)
/-- an instruction's law -/
def OpS (M : MI) (C : List (Nat × OP)) (pc npc : Nat) (op : OP) : Prop :=
  ∀ (d : Nat) (cf : CF) (p : Program) (l : Launch) (e : Env) (R : Room) (s : State) (m : MethodId) (args : Array Value) (below : List Frame) (meth : Method) (c : Code) (Q : State → Prop) (G : GP) (ad0 : List Nat) (res : RS) (jmp : Nat → KK) (nxt : KK) (lo sk : List Value) (α : AH) (nx k n : Nat),
    CX M p l s m args meth c → SE I G s s.heap → RO d R res → HQ Q G ad0 res below args s →
    (∀ y M2 as α nx r, I.1 y = some M2 → cf y as α nx = some r → COK I M2 d as α nx r) →
    (∀ lo sk α nx k n, nxt lo sk α nx k n = some res → WG p l e R s m args below meth c Q G ad0 M.2.2.1 res npc lo sk α nx k n) →
    (∀ j lo sk α nx k n, jmp j lo sk α nx k n = some res → WG p l e R s m args below meth c Q G ad0 M.2.2.1 res (pcAt C j) lo sk α nx k n) →
    op cf jmp nxt lo sk α nx k n = some res → WG p l e R s m args below meth c Q G ad0 M.2.2.1 res pc lo sk α nx k n
/-- an instruction that works on the stack alone -/
theorem OpS.stk {M : MI} {C : List (Nat × OP)} {pc npc : Nat} {op : OP}
    (step : ∀ (cf : CF) (jmp : Nat → KK) (nxt : KK) (lo sk : List Value) (α : AH) (nx k n : Nat) (res : RS), op cf jmp nxt lo sk α nx k n = some res → ∃ sk', nxt lo sk' α nx k n = some res ∧
      ∀ (p : Program) (l : Launch) (e : Env) (R : Room) (s : State) (m : MethodId) (args : Array Value) (below : List Frame) (meth : Method) (c : Code) (Q : State → Prop) (H : Heap) (locs : List Loc) (ls : Array Slot) (cells slots : Nat) (ad : List Nat) (sp : Nat → Nat) (rst : List Value), CX M p l s m args meth c → RLo ad sp lo ls M.2.2.1 → RVs ad sp sk rst →
        ∃ rst', RVs ad sp sk' rst' ∧ (W p l e R s m args below meth c H locs cells slots Q (F0 m npc ls rst') → W p l e R s m args below meth c H locs cells slots Q (F0 m pc ls rst))) : OpS I M C pc npc op := by
  intro d cf p l e R s m args below meth c Q G ad0 res jmp nxt lo sk α nx k n hC hE hR hQ hcf hn hj h
  obtain ⟨sk', h1, h2⟩ := step cf jmp nxt lo sk α nx k n res h
  obtain ⟨g1, g2⟩ := hn _ _ _ _ _ _ h1
  refine ⟨g1, fun ad H locs ls rst hv => ?_⟩
  obtain ⟨a1, a2, a3, a4, a5, a6⟩ := hv
  obtain ⟨rst', b1, b2⟩ := h2 p l e R s m args below meth c Q H locs ls k n ad (gs G) rst hC a5 a6
  exact b2 (g2 ad H locs ls rst' ⟨a1, a2, a3, a4, a5, b1⟩)
/-- an instruction that goes one of two ways -/
theorem OpS.br {M : MI} {C : List (Nat × OP)} {pc npc j : Nat} {op : OP} {tgt : Nat} (ht : pcAt C j = tgt)
    (step : ∀ (cf : CF) (jmp : Nat → KK) (nxt : KK) (lo sk : List Value) (α : AH) (nx k n : Nat) (res : RS), op cf jmp nxt lo sk α nx k n = some res → ∃ (b : Bool) (sk' : List Value), bB b (jmp j) nxt lo sk' α nx k n = some res ∧
      ∀ (p : Program) (l : Launch) (e : Env) (R : Room) (s : State) (m : MethodId) (args : Array Value) (below : List Frame) (meth : Method) (c : Code) (Q : State → Prop) (G : GP) (H : Heap) (locs : List Loc) (ls : Array Slot) (cells slots : Nat) (ad : List Nat) (rst : List Value), CX M p l s m args meth c → SE I G s s.heap → va_S (OA (gb G)) s.heap H locs → RH (gD G) (gc G) (OA (gb G)) ad (gs G) α H → RVs ad (gs G) sk rst →
        ∃ rst', RVs ad (gs G) sk' rst' ∧ (W p l e R s m args below meth c H locs cells slots Q (F0 m (bB b tgt npc) ls rst') → W p l e R s m args below meth c H locs cells slots Q (F0 m pc ls rst))) : OpS I M C pc npc op := by
  intro d cf p l e R s m args below meth c Q G ad0 res jmp nxt lo sk α nx k n hC hE hR hQ hcf hn hj h
  obtain ⟨b, sk', h1, h2⟩ := step cf jmp nxt lo sk α nx k n res h
  have hg : WG p l e R s m args below meth c Q G ad0 M.2.2.1 res (bB b tgt npc) lo sk' α nx k n := by
    cases b with
    | true =>
      have := hj _ _ _ _ _ _ _ h1
      rw [ht] at this
      exact this
    | false => exact hn _ _ _ _ _ _ h1
  obtain ⟨g1, g2⟩ := hg
  refine ⟨g1, fun ad H locs ls rst hv => ?_⟩
  obtain ⟨a1, a2, a3, a4, a5, a6⟩ := hv
  obtain ⟨rst', b1, b2⟩ := h2 p l e R s m args below meth c Q G H locs ls k n ad rst hC hE a3 a4 a6
  exact b2 (g2 ad H locs ls rst' ⟨a1, a2, a3, a4, a5, b1⟩)
def AllS (M : MI) (C : List (Nat × OP)) : List (Nat × OP) → Prop
  | [] => True
  | q :: tl => OpS I M C q.1 (hdp tl) q.2 ∧ AllS M C tl
theorem AllS.drp {M : MI} {C : List (Nat × OP)} : ∀ (j : Nat) {suf : List (Nat × OP)}, AllS I M C suf → AllS I M C (drp j suf)
  | 0, _, h => h
  | j + 1, [], h => h
  | j + 1, q :: tl, h => AllS.drp j (suf := tl) h.2
end ENG1
noncomputable def exe (cf : CF) (C : List (Nat × OP)) : Nat → List (Nat × OP) → KK := Nat.rec (motive := fun _ => List (Nat × OP) → KK)
  (fun suf lo sk α nx k n => some (0, suf.length, none, lo, sk, α, nx, k, n))
  (fun _ ih suf => List.rec (motive := fun _ => KK) (fun _ _ _ _ _ _ => none) (fun q tl _ => q.2 cf (fun j => ih (drp j C)) (ih tl)) suf)
theorem exe_sound {I : EVT} {M : MI} {C : List (Nat × OP)} (hA : AllS I M C C) {d : Nat} {cf : CF} (hcf : ∀ y M2 as α nx r, I.1 y = some M2 → cf y as α nx = some r → COK I M2 d as α nx r)
    {p : Program} {l : Launch} {e : Env} {R : Room} {s : State} {m : MethodId} {args : Array Value} {below : List Frame} {meth : Method} {c : Code} {Q : State → Prop} {G : GP} {ad0 : List Nat} {res : RS} (hC : CX M p l s m args meth c) (hE : SE I G s s.heap) (hR : RO d R res) (hQ : HQ Q G ad0 res below args s)
    (hp : ∀ (j : Nat) (lo sk : List Value) (α : AH) (nx k n : Nat), res = (0, (drp j C).length, none, lo, sk, α, nx, k, n) → WG p l e R s m args below meth c Q G ad0 M.2.2.1 res (pcAt C j) lo sk α nx k n) :
    ∀ (N j : Nat) (lo sk : List Value) (α : AH) (nx k n : Nat), exe cf C N (drp j C) lo sk α nx k n = some res → WG p l e R s m args below meth c Q G ad0 M.2.2.1 res (pcAt C j) lo sk α nx k n := by
  intro N
  induction N with
  | zero =>
    intro j lo sk α nx k n h
    exact hp j lo sk α nx k n (Option.some.inj h).symm
  | succ N ih =>
    intro j lo sk α nx k n h
    have hAj := AllS.drp I j hA
    have e1 : drp (j + 1) C = (drp j C).drop 1 := by rw [drp_eq, drp_eq, List.drop_drop]
    cases hd : drp j C with
    | nil =>
      rw [hd] at h
      cases h
    | cons q tl =>
      rw [hd] at h hAj
      have ht : drp (j + 1) C = tl := by rw [e1, hd]; rfl
      have hpc : pcAt C j = q.1 := by unfold pcAt; rw [hd]; rfl
      have hnp : hdp tl = pcAt C (j + 1) := by unfold pcAt; rw [ht]
      rw [hpc]
      have hop := hAj.1
      rw [hnp] at hop
      have h : q.2 cf (fun j => exe cf C N (drp j C)) (exe cf C N tl) lo sk α nx k n = some res := h
      refine hop d cf p l e R s m args below meth c Q G ad0 res _ _ lo sk α nx k n hC hE hR hQ hcf (fun lo sk α nx k n h => ?_) (fun j lo sk α nx k n h => ih j lo sk α nx k n h) h
      rw [← ht] at h
      exact ih (j + 1) lo sk α nx k n h
