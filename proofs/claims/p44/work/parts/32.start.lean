/-! ===== what holds at the start ===== -/
section
set_option maxRecDepth 100000
theorem q396 : Cond.instantiable RJx00060 6 ∈ lw_all := al_in (i := 396) rfl (by decide +kernel)
theorem q411 : Cond.instantiable RJ0 4 ∈ lw_all := al_in (i := 411) rfl (by decide +kernel)
theorem iwJ0 : ∀ w ∈ wsJ00, w ∈ lw_all := al_all (by decide +kernel)
theorem iwJx00060 : ∀ w ∈ wsJx000600, w ∈ lw_all := al_all (by decide +kernel)
theorem known_all {args : Array Value} {s : State} (hts : ∀ w ∈ lw_all, w.before args s = true) (hAO : va_AO "java/lang/Object" s) : ∃ (D : va_G) (cA cB cC : ClassId), va_K D vwCl [(cA, .int), (cB, .long), (cC, .object "java/lang/Object")] s := by
  obtain ⟨c0, i0, h0⟩ := u_known (C := RJ0) (T := TJ0) (N := 2) (n := 4) hts iwJ0 (hts _ q411)
  obtain ⟨c1, i1, h1⟩ := u_known (C := RJx00060) (T := TJx00060) (N := 6) (n := 6) hts iwJx00060 (hts _ q396)
  obtain ⟨c2, i2, h2⟩ := u_known (C := RJx4a65c) (T := TJx4a65c) (N := 3) (n := 3) hts iwJx4a65c (hts _ q39)
  obtain ⟨c3, i3, h3⟩ := u_known (C := RX0) (T := TX0) (N := 11) (n := 11) hts iwX0 (hts _ q463)
  obtain ⟨c4, i4, h4⟩ := u_known (C := RX1) (T := TX1) (N := 13) (n := 13) hts iwX1 (hts _ q276)
  obtain ⟨c5, i5, h5⟩ := u_known (C := RX2) (T := TX2) (N := 9) (n := 9) hts iwX2 (hts _ q659)
  obtain ⟨c6, i6, h6⟩ := u_known (C := RX3) (T := TX3) (N := 3) (n := 3) hts iwX3 (hts _ q739)
  obtain ⟨c7, i7, h7⟩ := u_known (C := RX5) (T := TX5) (N := 1) (n := 1) hts iwX5 (hts _ q469)
  obtain ⟨c8, i8, h8⟩ := u_known (C := RX6) (T := TX6) (N := 3) (n := 3) hts iwX6 (hts _ q65)
  obtain ⟨c9, i9, h9⟩ := u_known (C := RX7) (T := TX7) (N := 7) (n := 7) hts iwX7 (hts _ q31)
  obtain ⟨cA, kA, pA, f1, f2, f3⟩ := Cond.arrayClass_spec (hts _ q1029)
  obtain ⟨cB, kB, pB, g1, g2, g3⟩ := Cond.arrayClass_spec (hts _ q105)
  obtain ⟨pC, cC, kC, e1, e2, e3, e4, e5⟩ := Cond.arrayOver_spec (args := #[]) (first := s) (o := none) (s := s) (idx := []) hAO
  refine ⟨(fun k => if k = 0 then c0 else if k = 1 then c1 else if k = 2 then c2 else if k = 3 then c3 else if k = 4 then c4 else if k = 5 then c5 else if k = 6 then c6 else if k = 7 then c7 else if k = 8 then c8 else c9, fun k => if k = 0 then i0 else if k = 1 then i1 else if k = 2 then i2 else if k = 3 then i3 else if k = 4 then i4 else if k = 5 then i5 else if k = 6 then i6 else if k = 7 then i7 else if k = 8 then i8 else i9), cA, cB, cC, fun k q hq => ?_, fun k q hq => ?_⟩
  · match k, hq with
    | 0, hq => cases hq; exact h0
    | 1, hq => cases hq; exact h1
    | 2, hq => cases hq; exact h2
    | 3, hq => cases hq; exact h3
    | 4, hq => cases hq; exact h4
    | 5, hq => cases hq; exact h5
    | 6, hq => cases hq; exact h6
    | 7, hq => cases hq; exact h7
    | 8, hq => cases hq; exact h8
    | 9, hq => cases hq; exact h9
    | k + 10, hq => simp [vwCl] at hq
  · match k, hq with
    | 0, hq => cases hq; exact ⟨fun n z => ⟨(fun k h => by cases h), kA, f2, pA, f3⟩, f1⟩
    | 1, hq => cases hq; exact ⟨fun n z => ⟨(fun k h => by cases h), kB, g2, pB, g3⟩, g1⟩
    | 2, hq => cases hq; exact ⟨fun n z => ⟨(fun k h => by cases h), kC, e3, pC, e4⟩, kC, pC, e3, e4, e1, e5⟩
    | k + 3, hq => simp at hq
def st_G (n : Nat) (D : va_G) (cA cB cC : ClassId) (ad : Nat → Nat) (e0 b : Nat) : GP := (n, D, (cA, cB, cC), fun k => match k with | 3 => e0 | 4 => b | k => ad k)
theorem st_SE {s : State} {b L : Nat} {xs : Nat → Int32} (hts0 : ∀ w ∈ lw_tbl, w.before #[Value.ref b] s = true) (hX : va_X b L xs s s.heap) (hbl : b < s.heap.size) (hgv : (Jvm.Cond.and given_1 narrow_1).before #[Value.ref b] s = true) : ∃ G : GP, SE (infoT, L, xs) G s s.heap ∧ gb G = s.heap.size ∧ gs G 4 = b := by
  have hn := flat_of_before _ hgv
  have hts := al_hts hts0
  have hA9 : ∀ a : Nat, a < s.heap.size → ¬ OA s.heap.size a := fun a h => Nat.not_le.mpr h
  have hAO : va_AO "java/lang/Object" s := va_AO.of (hts0 (.arrayOver (.object "java/lang/Object")) (List.mem_append_right _ (List.mem_of_getElem? (i := 633) (by decide +kernel))))
  obtain ⟨D, cA, cB, cC, hK⟩ := known_all hts hAO
  have hZ : ZZ (OA s.heap.size) s s.heap := ⟨vx_Zqof (hts0 _ (List.mem_append_right _ (List.mem_of_getElem? (i := 204) (by decide +kernel)))) (hts0 _ (List.mem_append_right _ (List.mem_of_getElem? (i := 6) (by decide +kernel)))) (hn (.isRef (.static Bundle.tN "UNASSIGNED_STACK" Bundle.steD)) (by decide +kernel)) hA9, vx_Zqof (hts0 _ (List.mem_append_right _ (List.mem_of_getElem? (i := 206) (by decide +kernel)))) (hts0 _ (List.mem_append_right _ (List.mem_of_getElem? (i := 6) (by decide +kernel)))) (hn (.isRef (.static Bundle.tN "SUPPRESSED_SENTINEL" Bundle.listD)) (by decide +kernel)) hA9⟩
  have harr := hn (.arrayOf (.static "java/util/ArrayList" "DEFAULTCAPACITY_EMPTY_ELEMENTDATA" "[Ljava/lang/Object;") (.object "java/lang/Object")) (by decide +kernel)
  have hlen := hn (.eq (.length (.static "java/util/ArrayList" "DEFAULTCAPACITY_EMPTY_ELEMENTDATA" "[Ljava/lang/Object;")) (.int 0)) (by decide +kernel)
  have hexa := hn (.exactly (.static "java/util/ArrayList" "DEFAULTCAPACITY_EMPTY_ELEMENTDATA" "[Ljava/lang/Object;") "[Ljava/lang/Object;") (by decide +kernel)
  obtain ⟨e0, he0, hZt⟩ := va_Tof (N := 0) (f := fun _ => .null) (A := OA s.heap.size) (by decide) harr (va_eqI (by simpa [Cond.before, Cond.holds] using hlen) rfl) (fun j hj => absurd hj (Nat.not_lt_zero j)) hA9
  have hZd : va_Z "java/util/ArrayList" "DEFAULTCAPACITY_EMPTY_ELEMENTDATA" "[Ljava/lang/Object;" (.ref e0) (OA s.heap.size) s s.heap := va_Zof (hts0 _ (List.mem_append_right _ (List.mem_of_getElem? (i := 51) (by decide +kernel)))) (hts0 _ (List.mem_append_right _ (List.mem_of_getElem? (i := 4) (by decide +kernel)))) he0 hA9
  have lS : (Cond.laysStatic "LysimeterField$Soil" "SAND" "LLysimeterField$Soil;").before #[Value.ref b] s = true := hts0 _ (List.mem_append_right _ (List.mem_of_getElem? (i := 649) (by decide +kernel)))
  have xS : (Cond.exactly (.static "LysimeterField$Soil" "SAND" "LLysimeterField$Soil;") "LysimeterField$Soil").before #[Value.ref b] s = true := hn _ (by decide +kernel)
  have lL : (Cond.laysStatic "LysimeterField$Soil" "LOAM" "LLysimeterField$Soil;").before #[Value.ref b] s = true := hts0 _ (List.mem_append_right _ (List.mem_of_getElem? (i := 651) (by decide +kernel)))
  have xL : (Cond.exactly (.static "LysimeterField$Soil" "LOAM" "LLysimeterField$Soil;") "LysimeterField$Soil").before #[Value.ref b] s = true := hn _ (by decide +kernel)
  have lC : (Cond.laysStatic "LysimeterField$Soil" "CLAY" "LLysimeterField$Soil;").before #[Value.ref b] s = true := hts0 _ (List.mem_append_right _ (List.mem_of_getElem? (i := 322) (by decide +kernel)))
  have xC : (Cond.exactly (.static "LysimeterField$Soil" "CLAY" "LLysimeterField$Soil;") "LysimeterField$Soil").before #[Value.ref b] s = true := hn _ (by decide +kernel)
  have nCS : (Cond.not (.eq (.static "LysimeterField$Soil" "CLAY" "LLysimeterField$Soil;") (.static "LysimeterField$Soil" "SAND" "LLysimeterField$Soil;"))).before #[Value.ref b] s = true := hn _ (by decide +kernel)
  have nCL : (Cond.not (.eq (.static "LysimeterField$Soil" "CLAY" "LLysimeterField$Soil;") (.static "LysimeterField$Soil" "LOAM" "LLysimeterField$Soil;"))).before #[Value.ref b] s = true := hn _ (by decide +kernel)
  have nSL : (Cond.not (.eq (.static "LysimeterField$Soil" "SAND" "LLysimeterField$Soil;") (.static "LysimeterField$Soil" "LOAM" "LLysimeterField$Soil;"))).before #[Value.ref b] s = true := hn _ (by decide +kernel)
  have hini : (Cond.initialized "LysimeterField$Soil").before #[Value.ref b] s = true := hts0 _ (List.mem_append_right _ (List.mem_of_getElem? (i := 16) (by decide +kernel)))
  have hne : ∀ i j : Nat, i < 3 → j < 3 → i ≠ j → (Cond.not (.eq (.static "LysimeterField$Soil" (["SAND", "LOAM", "CLAY"].getD i "") "LLysimeterField$Soil;") (.static "LysimeterField$Soil" (["SAND", "LOAM", "CLAY"].getD j "") "LLysimeterField$Soil;"))).before #[Value.ref b] s = true ∨ (Cond.not (.eq (.static "LysimeterField$Soil" (["SAND", "LOAM", "CLAY"].getD j "") "LLysimeterField$Soil;") (.static "LysimeterField$Soil" (["SAND", "LOAM", "CLAY"].getD i "") "LLysimeterField$Soil;"))).before #[Value.ref b] s = true := by
    intro i j hi hj ne
    rcases (show i = 0 ∨ i = 1 ∨ i = 2 by omega) with rfl | rfl | rfl <;> rcases (show j = 0 ∨ j = 1 ∨ j = 2 by omega) with rfl | rfl | rfl
    · exact absurd rfl ne
    · exact Or.inl nSL
    · exact Or.inr nCS
    · exact Or.inr nSL
    · exact absurd rfl ne
    · exact Or.inr nCL
    · exact Or.inl nCS
    · exact Or.inl nCL
    · exact absurd rfl ne
  obtain ⟨ad, hE, hev⟩ := va_Enof2 (args := #[Value.ref b]) (s := s) (E := "LysimeterField$Soil") (d := "LLysimeterField$Soil;") (nm := ["SAND", "LOAM", "CLAY"]) (F := []) (A := OA s.heap.size)
    (fun i hi => match i, hi with | 0, _ => lS | 1, _ => lL | 2, _ => lC | k + 3, hi => absurd (show k + 3 < 3 from hi) (by omega)) hini
    (fun i hi => match i, hi with | 0, _ => xS | 1, _ => xL | 2, _ => xC | k + 3, hi => absurd (show k + 3 < 3 from hi) (by omega))
    (fun q hq => absurd hq List.not_mem_nil) hne hA9
  have v0 : (Term.static "LysimeterField$Soil" "SAND" "LLysimeterField$Soil;").eval #[Value.ref b] s none [] s = some (.ref (ad 0)) := hev 0 (by decide)
  have v1 : (Term.static "LysimeterField$Soil" "LOAM" "LLysimeterField$Soil;").eval #[Value.ref b] s none [] s = some (.ref (ad 1)) := hev 1 (by decide)
  have v2 : (Term.static "LysimeterField$Soil" "CLAY" "LLysimeterField$Soil;").eval #[Value.ref b] s none [] s = some (.ref (ad 2)) := hev 2 (by decide)
  have f0_0 : va_OF "LysimeterField$Soil" "capacity" "I" (.int 35) (ad 0) (OA s.heap.size) s s.heap := vk_OFof v0 (va_eqt (hn (.eq (.field (.static "LysimeterField$Soil" "SAND" "LLysimeterField$Soil;") "LysimeterField$Soil" "capacity" "I") (.int 35)) (by decide +kernel))) hA9
  have f0_1 : va_OF "LysimeterField$Soil" "capacity" "I" (.int 45) (ad 1) (OA s.heap.size) s s.heap := vk_OFof v1 (va_eqt (hn (.eq (.field (.static "LysimeterField$Soil" "LOAM" "LLysimeterField$Soil;") "LysimeterField$Soil" "capacity" "I") (.int 45)) (by decide +kernel))) hA9
  have f0_2 : va_OF "LysimeterField$Soil" "capacity" "I" (.int 50) (ad 2) (OA s.heap.size) s s.heap := vk_OFof v2 (va_eqt (hn (.eq (.field (.static "LysimeterField$Soil" "CLAY" "LLysimeterField$Soil;") "LysimeterField$Soil" "capacity" "I") (.int 50)) (by decide +kernel))) hA9
  have f1_0 : va_OF "LysimeterField$Soil" "field" "I" (.int 10) (ad 0) (OA s.heap.size) s s.heap := vk_OFof v0 (va_eqt (hn (.eq (.field (.static "LysimeterField$Soil" "SAND" "LLysimeterField$Soil;") "LysimeterField$Soil" "field" "I") (.int 10)) (by decide +kernel))) hA9
  have f1_1 : va_OF "LysimeterField$Soil" "field" "I" (.int 25) (ad 1) (OA s.heap.size) s s.heap := vk_OFof v1 (va_eqt (hn (.eq (.field (.static "LysimeterField$Soil" "LOAM" "LLysimeterField$Soil;") "LysimeterField$Soil" "field" "I") (.int 25)) (by decide +kernel))) hA9
  have f1_2 : va_OF "LysimeterField$Soil" "field" "I" (.int 38) (ad 2) (OA s.heap.size) s s.heap := vk_OFof v2 (va_eqt (hn (.eq (.field (.static "LysimeterField$Soil" "CLAY" "LLysimeterField$Soil;") "LysimeterField$Soil" "field" "I") (.int 38)) (by decide +kernel))) hA9
  have f2_0 : va_OF "LysimeterField$Soil" "wilting" "I" (.int 4) (ad 0) (OA s.heap.size) s s.heap := vk_OFof v0 (va_eqt (hn (.eq (.field (.static "LysimeterField$Soil" "SAND" "LLysimeterField$Soil;") "LysimeterField$Soil" "wilting" "I") (.int 4)) (by decide +kernel))) hA9
  have f2_1 : va_OF "LysimeterField$Soil" "wilting" "I" (.int 10) (ad 1) (OA s.heap.size) s s.heap := vk_OFof v1 (va_eqt (hn (.eq (.field (.static "LysimeterField$Soil" "LOAM" "LLysimeterField$Soil;") "LysimeterField$Soil" "wilting" "I") (.int 10)) (by decide +kernel))) hA9
  have f2_2 : va_OF "LysimeterField$Soil" "wilting" "I" (.int 22) (ad 2) (OA s.heap.size) s s.heap := vk_OFof v2 (va_eqt (hn (.eq (.field (.static "LysimeterField$Soil" "CLAY" "LLysimeterField$Soil;") "LysimeterField$Soil" "wilting" "I") (.int 22)) (by decide +kernel))) hA9
  have f3_0 : va_OF "LysimeterField$Soil" "intake" "I" (.int 200) (ad 0) (OA s.heap.size) s s.heap := vk_OFof v0 (va_eqt (hn (.eq (.field (.static "LysimeterField$Soil" "SAND" "LLysimeterField$Soil;") "LysimeterField$Soil" "intake" "I") (.int 200)) (by decide +kernel))) hA9
  have f3_1 : va_OF "LysimeterField$Soil" "intake" "I" (.int 50) (ad 1) (OA s.heap.size) s s.heap := vk_OFof v1 (va_eqt (hn (.eq (.field (.static "LysimeterField$Soil" "LOAM" "LLysimeterField$Soil;") "LysimeterField$Soil" "intake" "I") (.int 50)) (by decide +kernel))) hA9
  have f3_2 : va_OF "LysimeterField$Soil" "intake" "I" (.int 5) (ad 2) (OA s.heap.size) s s.heap := vk_OFof v2 (va_eqt (hn (.eq (.field (.static "LysimeterField$Soil" "CLAY" "LLysimeterField$Soil;") "LysimeterField$Soil" "intake" "I") (.int 5)) (by decide +kernel))) hA9
  have f4_0 : va_OF "LysimeterField$Soil" "drain" "I" (.int 50) (ad 0) (OA s.heap.size) s s.heap := vk_OFof v0 (va_eqt (hn (.eq (.field (.static "LysimeterField$Soil" "SAND" "LLysimeterField$Soil;") "LysimeterField$Soil" "drain" "I") (.int 50)) (by decide +kernel))) hA9
  have f4_1 : va_OF "LysimeterField$Soil" "drain" "I" (.int 25) (ad 1) (OA s.heap.size) s s.heap := vk_OFof v1 (va_eqt (hn (.eq (.field (.static "LysimeterField$Soil" "LOAM" "LLysimeterField$Soil;") "LysimeterField$Soil" "drain" "I") (.int 25)) (by decide +kernel))) hA9
  have f4_2 : va_OF "LysimeterField$Soil" "drain" "I" (.int 10) (ad 2) (OA s.heap.size) s s.heap := vk_OFof v2 (va_eqt (hn (.eq (.field (.static "LysimeterField$Soil" "CLAY" "LLysimeterField$Soil;") "LysimeterField$Soil" "drain" "I") (.int 10)) (by decide +kernel))) hA9
  have w01 : va_Nc "java/lang/IndexOutOfBoundsException" "java/lang/IllegalArgumentException" s := va_Nc.of (args := #[Value.ref b]) (hn _ (by decide +kernel))
  have w02 : va_Nc "java/lang/IndexOutOfBoundsException" "java/lang/IllegalStateException" s := va_Nc.of (args := #[Value.ref b]) (hn _ (by decide +kernel))
  have w03 : va_Nc "java/lang/IndexOutOfBoundsException" "java/lang/UnsupportedOperationException" s := va_Nc.of (args := #[Value.ref b]) (hn _ (by decide +kernel))
  have w04 : va_Nc "java/lang/IndexOutOfBoundsException" "java/util/NoSuchElementException" s := va_Nc.of (args := #[Value.ref b]) (hn _ (by decide +kernel))
  have w05 : va_Nc "java/lang/IndexOutOfBoundsException" "java/lang/ArithmeticException" s := va_Nc.of (args := #[Value.ref b]) (hn _ (by decide +kernel))
  have w10 : va_Nc "java/lang/IllegalArgumentException" "java/lang/IndexOutOfBoundsException" s := va_Nc.of (args := #[Value.ref b]) (hn _ (by decide +kernel))
  have w12 : va_Nc "java/lang/IllegalArgumentException" "java/lang/IllegalStateException" s := va_Nc.of (args := #[Value.ref b]) (hn _ (by decide +kernel))
  have w13 : va_Nc "java/lang/IllegalArgumentException" "java/lang/UnsupportedOperationException" s := va_Nc.of (args := #[Value.ref b]) (hn _ (by decide +kernel))
  have w14 : va_Nc "java/lang/IllegalArgumentException" "java/util/NoSuchElementException" s := va_Nc.of (args := #[Value.ref b]) (hn _ (by decide +kernel))
  have w15 : va_Nc "java/lang/IllegalArgumentException" "java/lang/ArithmeticException" s := va_Nc.of (args := #[Value.ref b]) (hn _ (by decide +kernel))
  have w20 : va_Nc "java/lang/IllegalStateException" "java/lang/IndexOutOfBoundsException" s := va_Nc.of (args := #[Value.ref b]) (hn _ (by decide +kernel))
  have w21 : va_Nc "java/lang/IllegalStateException" "java/lang/IllegalArgumentException" s := va_Nc.of (args := #[Value.ref b]) (hn _ (by decide +kernel))
  have w23 : va_Nc "java/lang/IllegalStateException" "java/lang/UnsupportedOperationException" s := va_Nc.of (args := #[Value.ref b]) (hn _ (by decide +kernel))
  have w24 : va_Nc "java/lang/IllegalStateException" "java/util/NoSuchElementException" s := va_Nc.of (args := #[Value.ref b]) (hn _ (by decide +kernel))
  have w25 : va_Nc "java/lang/IllegalStateException" "java/lang/ArithmeticException" s := va_Nc.of (args := #[Value.ref b]) (hn _ (by decide +kernel))
  have w30 : va_Nc "java/lang/UnsupportedOperationException" "java/lang/IndexOutOfBoundsException" s := va_Nc.of (args := #[Value.ref b]) (hn _ (by decide +kernel))
  have w31 : va_Nc "java/lang/UnsupportedOperationException" "java/lang/IllegalArgumentException" s := va_Nc.of (args := #[Value.ref b]) (hn _ (by decide +kernel))
  have w32 : va_Nc "java/lang/UnsupportedOperationException" "java/lang/IllegalStateException" s := va_Nc.of (args := #[Value.ref b]) (hn _ (by decide +kernel))
  have w34 : va_Nc "java/lang/UnsupportedOperationException" "java/util/NoSuchElementException" s := va_Nc.of (args := #[Value.ref b]) (hn _ (by decide +kernel))
  have w35 : va_Nc "java/lang/UnsupportedOperationException" "java/lang/ArithmeticException" s := va_Nc.of (args := #[Value.ref b]) (hn _ (by decide +kernel))
  have w40 : va_Nc "java/util/NoSuchElementException" "java/lang/IndexOutOfBoundsException" s := va_Nc.of (args := #[Value.ref b]) (hn _ (by decide +kernel))
  have w41 : va_Nc "java/util/NoSuchElementException" "java/lang/IllegalArgumentException" s := va_Nc.of (args := #[Value.ref b]) (hn _ (by decide +kernel))
  have w42 : va_Nc "java/util/NoSuchElementException" "java/lang/IllegalStateException" s := va_Nc.of (args := #[Value.ref b]) (hn _ (by decide +kernel))
  have w43 : va_Nc "java/util/NoSuchElementException" "java/lang/UnsupportedOperationException" s := va_Nc.of (args := #[Value.ref b]) (hn _ (by decide +kernel))
  have w45 : va_Nc "java/util/NoSuchElementException" "java/lang/ArithmeticException" s := va_Nc.of (args := #[Value.ref b]) (hn _ (by decide +kernel))
  have w50 : va_Nc "java/lang/ArithmeticException" "java/lang/IndexOutOfBoundsException" s := va_Nc.of (args := #[Value.ref b]) (hn _ (by decide +kernel))
  have w51 : va_Nc "java/lang/ArithmeticException" "java/lang/IllegalArgumentException" s := va_Nc.of (args := #[Value.ref b]) (hn _ (by decide +kernel))
  have w52 : va_Nc "java/lang/ArithmeticException" "java/lang/IllegalStateException" s := va_Nc.of (args := #[Value.ref b]) (hn _ (by decide +kernel))
  have w53 : va_Nc "java/lang/ArithmeticException" "java/lang/UnsupportedOperationException" s := va_Nc.of (args := #[Value.ref b]) (hn _ (by decide +kernel))
  have w54 : va_Nc "java/lang/ArithmeticException" "java/util/NoSuchElementException" s := va_Nc.of (args := #[Value.ref b]) (hn _ (by decide +kernel))
  have z0 : va_Z "LysimeterField$Soil" "SAND" "LLysimeterField$Soil;" (.ref (ad 0)) (OA s.heap.size) s s.heap := (hE.1 0 (by decide)).1
  have z1 : va_Z "LysimeterField$Soil" "LOAM" "LLysimeterField$Soil;" (.ref (ad 1)) (OA s.heap.size) s s.heap := (hE.1 1 (by decide)).1
  have z2 : va_Z "LysimeterField$Soil" "CLAY" "LLysimeterField$Soil;" (.ref (ad 2)) (OA s.heap.size) s s.heap := (hE.1 2 (by decide)).1
  have o0 : va_O "LysimeterField$Soil" (ad 0) (OA s.heap.size) s s.heap := (hE.1 0 (by decide)).2.1
  have o1 : va_O "LysimeterField$Soil" (ad 1) (OA s.heap.size) s s.heap := (hE.1 1 (by decide)).2.1
  have o2 : va_O "LysimeterField$Soil" (ad 2) (OA s.heap.size) s s.heap := (hE.1 2 (by decide)).2.1
  have hlt : ∀ a : Nat, va_O "LysimeterField$Soil" a (OA s.heap.size) s s.heap → a < s.heap.size := fun a h => by
    obtain ⟨cell, h1, -⟩ := h
    exact (Array.getElem?_eq_some_iff.mp h1).1
  have hle : e0 < s.heap.size := by
    obtain ⟨cell, h1, -⟩ := hZt
    exact (Array.getElem?_eq_some_iff.mp h1).1
  have hap : ∀ a : Nat, va_O "LysimeterField$Soil" a (OA s.heap.size) s s.heap → a ≠ e0 := fun a h e => by
    obtain ⟨cell, h1, -, h3, -⟩ := h
    obtain ⟨a9, c9, cell9, k9, q1, q2, q3, q4, q5, q6, -⟩ := Cond.exactly_spec hexa
    cases he0.symm.trans q1
    rw [e] at h1
    cases Option.some.inj (h1.symm.trans q3)
    rw [q6] at h3
    obtain ⟨kx, kx1, kx2⟩ := Vm.findClass_spec h3
    obtain ⟨ky, ky1, ky2⟩ := Vm.findClass_spec q2
    cases Option.some.inj (kx1.symm.trans ky1)
    exact absurd (kx2.symm.trans ky2) (by decide)
  have hd : ∀ i j : Nat, i < 4 → j < 4 → gs (st_G s.heap.size D cA cB cC ad e0 b) i = gs (st_G s.heap.size D cA cB cC ad e0 b) j → i = j := by
    intro i j hi hj e
    rcases (show i = 0 ∨ i = 1 ∨ i = 2 ∨ i = 3 by omega) with rfl | rfl | rfl | rfl <;> rcases (show j = 0 ∨ j = 1 ∨ j = 2 ∨ j = 3 by omega) with rfl | rfl | rfl | rfl
    · exact rfl
    · exact absurd (show ad 0 = ad 1 from e) (fun z => absurd (hE.2 0 1 (by decide) (by decide) z) (by decide))
    · exact absurd (show ad 0 = ad 2 from e) (fun z => absurd (hE.2 0 2 (by decide) (by decide) z) (by decide))
    · exact absurd (show ad 0 = e0 from e) (hap _ o0)
    · exact absurd (show ad 1 = ad 0 from e) (fun z => absurd (hE.2 1 0 (by decide) (by decide) z) (by decide))
    · exact rfl
    · exact absurd (show ad 1 = ad 2 from e) (fun z => absurd (hE.2 1 2 (by decide) (by decide) z) (by decide))
    · exact absurd (show ad 1 = e0 from e) (hap _ o1)
    · exact absurd (show ad 2 = ad 0 from e) (fun z => absurd (hE.2 2 0 (by decide) (by decide) z) (by decide))
    · exact absurd (show ad 2 = ad 1 from e) (fun z => absurd (hE.2 2 1 (by decide) (by decide) z) (by decide))
    · exact rfl
    · exact absurd (show ad 2 = e0 from e) (hap _ o2)
    · exact absurd (show ad 0 = e0 from Eq.symm e) (hap _ o0)
    · exact absurd (show ad 1 = e0 from Eq.symm e) (hap _ o1)
    · exact absurd (show ad 2 = e0 from Eq.symm e) (hap _ o2)
    · exact rfl
  refine ⟨st_G s.heap.size D cA cB cC ad e0 b, ⟨hK, GE.of hts0, hZ, hAO, fun i hi => ?_, hd, fun i hi => ?_, hZt, ?_, hX, Nat.le_refl _, ?_⟩, rfl, rfl⟩
  · rcases (show i = 0 ∨ i = 1 ∨ i = 2 ∨ i = 3 ∨ i = 4 by omega) with rfl | rfl | rfl | rfl | rfl
    · exact hlt _ o0
    · exact hlt _ o1
    · exact hlt _ o2
    · exact hle
    · exact hbl
  · rcases (show i = 0 ∨ i = 1 ∨ i = 2 ∨ i = 3 by omega) with rfl | rfl | rfl | rfl
    · exact z0
    · exact z1
    · exact z2
    · exact hZd
  · exact fun k hk i hi => match k, i, hk, hi with
      | 0, 0, _, _ => f0_0
      | 0, 1, _, _ => f0_1
      | 0, 2, _, _ => f0_2
      | 1, 0, _, _ => f1_0
      | 1, 1, _, _ => f1_1
      | 1, 2, _, _ => f1_2
      | 2, 0, _, _ => f2_0
      | 2, 1, _, _ => f2_1
      | 2, 2, _, _ => f2_2
      | 3, 0, _, _ => f3_0
      | 3, 1, _, _ => f3_1
      | 3, 2, _, _ => f3_2
      | 4, 0, _, _ => f4_0
      | 4, 1, _, _ => f4_1
      | 4, 2, _, _ => f4_2
      | k + 5, _, hk, _ => absurd hk (by omega)
      | 0, i + 3, _, hi => absurd hi (by omega)
      | 1, i + 3, _, hi => absurd hi (by omega)
      | 2, i + 3, _, hi => absurd hi (by omega)
      | 3, i + 3, _, hi => absurd hi (by omega)
      | 4, i + 3, _, hi => absurd hi (by omega)
  · exact fun i j hi hj ne => match i, j, hi, hj, ne with
      | 0, 0, _, _, ne => absurd rfl ne
      | 0, 1, _, _, _ => w01
      | 0, 2, _, _, _ => w02
      | 0, 3, _, _, _ => w03
      | 0, 4, _, _, _ => w04
      | 0, 5, _, _, _ => w05
      | 1, 0, _, _, _ => w10
      | 1, 1, _, _, ne => absurd rfl ne
      | 1, 2, _, _, _ => w12
      | 1, 3, _, _, _ => w13
      | 1, 4, _, _, _ => w14
      | 1, 5, _, _, _ => w15
      | 2, 0, _, _, _ => w20
      | 2, 1, _, _, _ => w21
      | 2, 2, _, _, ne => absurd rfl ne
      | 2, 3, _, _, _ => w23
      | 2, 4, _, _, _ => w24
      | 2, 5, _, _, _ => w25
      | 3, 0, _, _, _ => w30
      | 3, 1, _, _, _ => w31
      | 3, 2, _, _, _ => w32
      | 3, 3, _, _, ne => absurd rfl ne
      | 3, 4, _, _, _ => w34
      | 3, 5, _, _, _ => w35
      | 4, 0, _, _, _ => w40
      | 4, 1, _, _, _ => w41
      | 4, 2, _, _, _ => w42
      | 4, 3, _, _, _ => w43
      | 4, 4, _, _, ne => absurd rfl ne
      | 4, 5, _, _, _ => w45
      | 5, 0, _, _, _ => w50
      | 5, 1, _, _, _ => w51
      | 5, 2, _, _, _ => w52
      | 5, 3, _, _, _ => w53
      | 5, 4, _, _, _ => w54
      | 5, 5, _, _, ne => absurd rfl ne
      | i + 6, _, hi, _, _ => absurd hi (by omega)
      | 0, j + 6, _, hj, _ => absurd hj (by omega)
      | 1, j + 6, _, hj, _ => absurd hj (by omega)
      | 2, j + 6, _, hj, _ => absurd hj (by omega)
      | 3, j + 6, _, hj, _ => absurd hj (by omega)
      | 4, j + 6, _, hj, _ => absurd hj (by omega)
      | 5, j + 6, _, hj, _ => absurd hj (by omega)
end
