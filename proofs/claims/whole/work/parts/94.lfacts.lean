-- what the Statement gives of the start
theorem arr_p {s : State} {args : Array Value} {ty : FieldType} (h : (Cond.arrayClass ty).before args s = true) : ∃ (c : ClassId) (k : Class), ArrOfT s c ty ∧ s.vm.findClass ("[" ++ ty.toString) = some c ∧ s.vm.classes[c]? = some k := by
  obtain ⟨c, k, comp, h1, h2, h3⟩ := Cond.arrayClass_spec (args := args) (first := s) (o := none) (s := s) (idx := []) (type := ty) h
  exact ⟨c, k, fun n z => ⟨fun k h => (by cases h), k, h2, comp, h3⟩, h1, h2⟩
theorem arr_o {s : State} {args : Array Value} {C : String} (h : (Cond.arrayOver (.object C)).before args s = true) : ∃ c : ClassId, ArrOfT s c (.object C) ∧ va_RA s c (.object C) := by
  obtain ⟨comp, c, k, h1, -, h2, h3, h4⟩ := Cond.arrayOver_spec (args := args) (first := s) (o := none) (s := s) (idx := []) (n := C) h
  exact ⟨c, fun n z => ⟨fun k h => (by cases h), k, h2, comp, h3⟩, k, comp, h2, h3, h1, h4⟩
theorem arr_a {s : State} {args : Array Value} {c1 : ClassId} (hJ : s.vm.findClass ("[" ++ FieldType.long.toString) = some c1) (h : (Cond.arrayOver (.array .long)).before args s = true) : ∃ (c : ClassId) (kA : Class), ArrOfT s c (.array .long) ∧ s.vm.findClass ("[" ++ (FieldType.array .long).toString) = some c ∧ s.vm.classes[c]? = some kA ∧ kA.kind = .array c1 (.array .long) := by
  obtain ⟨comp, c, k, h1, -, h2, h3, h4⟩ := arrayOverA_spec (args := args) (first := s) (o := none) (s := s) (idx := []) (t := .long) h
  have e : comp = c1 := Option.some.inj (h1.symm.trans hJ)
  subst e
  exact ⟨c, k, fun n z => ⟨fun k h => (by cases h), k, h2, comp, h3⟩, h4, h2, h3⟩
theorem law_N {s : State} {bs : Nat} (hts : ∀ w ∈ lw_tbl, w.before #[Value.ref bs] s = true) : cxN s ∧ cwN s :=
  ⟨⟨va_Nw.of rfl (hts _ (by decide +kernel)), va_Nw.of rfl (hts _ (by decide +kernel)), va_Nw.of rfl (hts _ (by decide +kernel)), va_Nw.of rfl (hts _ (by decide +kernel)), hts (.arrayOver (.object "CallWalker$Behaviour")) (by decide +kernel), hts (.arrayOver (.object "CallWalker$Frame")) (by decide +kernel), hts (.arrayOver (.object "CallWalkerModel$Frame")) (by decide +kernel), hts (.arrayOver (.array .long)) (by decide +kernel)⟩,
    va_Nw.of rfl (hts _ (by decide +kernel)), va_Nw.of rfl (hts _ (by decide +kernel)), va_Nw.of rfl (hts _ (by decide +kernel)), va_Nw.of rfl (hts _ (by decide +kernel)), va_Nw.of rfl (hts _ (by decide +kernel)), va_Nw.of rfl (hts _ (by decide +kernel)), va_Nw.of rfl (hts _ (by decide +kernel))⟩
theorem hmT : ∀ j, j < 32 → Cond.eq (.elem (.static "CallWalker" "TAKES" "[I") (.int (Int32.ofNat j))) (.int (tkT j)) ∈ flatC (Jvm.Cond.and given_1 narrow_1) := by decide +kernel
theorem hmM : ∀ j, j < 32 → Cond.eq (.elem (.static "CallWalker" "MAKES" "[I") (.int (Int32.ofNat j))) (.int (tkM j)) ∈ flatC (Jvm.Cond.and given_1 narrow_1) := by decide +kernel
theorem law_T {s : State} {bs : Nat} (hts : ∀ w ∈ lw_tbl, w.before #[Value.ref bs] s = true) (hgv : (Jvm.Cond.and given_1 narrow_1).before #[Value.ref bs] s = true) (hA : ∀ q : Nat, q < s.heap.size → ¬ lwA s.heap.size q) : ∃ tb0 tb1 : Nat, cwT (lwA s.heap.size) tb0 tb1 s s.heap := by
  have hs := flat_of_before _ hgv
  obtain ⟨t0, e0, T0⟩ := va_Tof (tm := .static "CallWalker" "TAKES" "[I") (ty := .int) (N := 32) (f := fun j => .int (tkT j)) (A := lwA s.heap.size) (by decide) (hs _ (by decide +kernel)) (va_eqt (hs _ (by decide +kernel))) (fun j hj => va_eqt (hs _ (hmT j hj))) hA
  obtain ⟨t1, e1, T1⟩ := va_Tof (tm := .static "CallWalker" "MAKES" "[I") (ty := .int) (N := 32) (f := fun j => .int (tkM j)) (A := lwA s.heap.size) (by decide) (hs _ (by decide +kernel)) (va_eqt (hs _ (by decide +kernel))) (fun j hj => va_eqt (hs _ (hmM j hj))) hA
  exact ⟨t0, t1, va_Zref (hts _ (by decide +kernel)) (hts _ (by decide +kernel)) e0 hA, T0, va_Zref (hts _ (by decide +kernel)) (hts _ (by decide +kernel)) e1 hA, T1⟩
theorem vxB_t : ∀ w ∈ vxB, w ∈ lw_tbl := by decide +kernel
theorem vxB_o : ∀ w ∈ vxB, w.onTables = true := by decide +kernel
theorem law_E {s : State} {bs : Nat} (hts : ∀ w ∈ lw_tbl, w.before #[Value.ref bs] s = true) (hgv : (Jvm.Cond.and given_1 narrow_1).before #[Value.ref bs] s = true) (hA : ∀ q : Nat, q < s.heap.size → ¬ lwA s.heap.size q) : ∃ sa : Nat, vEx (lwA s.heap.size) sa s := by
  have hs := flat_of_before _ hgv
  obtain ⟨sa, c9, cA9, kA9, q1, -⟩ := Cond.exactly_spec (args := #[Value.ref bs]) (first := s) (o := none) (s := s) (idx := []) (t := .string "CallWalker" 90) (cls := "java/lang/String") (hs _ (by decide +kernel))
  exact ⟨sa, vx_Zqof (hts _ (by decide +kernel)) (hts _ (by decide +kernel)) (hs _ (by decide +kernel)) hA, vx_Zqof (hts _ (by decide +kernel)) (hts _ (by decide +kernel)) (hs _ (by decide +kernel)) hA, vk_R.of (hts _ (by decide +kernel)) q1, fun w hw => va_any (vxB_o w hw) (hts w (vxB_t w hw))⟩
set_option maxHeartbeats 4000000 in
theorem law_K {s : State} {bs : Nat} (hts : ∀ w ∈ lw_tbl, w.before #[Value.ref bs] s = true) (hgv : (Jvm.Cond.and given_1 narrow_1).before #[Value.ref bs] s = true) : ∃ (D : va_G) (cA : Nat → ClassId) (tb0 tb1 sa : Nat), LK D s.heap.size cA tb0 tb1 sa s := by
  have hgw : ∀ w ∈ gwW, w.before #[Value.ref bs] s = true := fun w h => hts w (List.mem_filter.mp h).1
  have hA : ∀ q : Nat, q < s.heap.size → ¬ lwA s.heap.size q := fun q h z => Nat.not_le.mpr h z
  obtain ⟨c0, i0, k0⟩ := u_known hgw iwBeh (hgw _ w_6c1f891b)
  obtain ⟨c1, i1, k1⟩ := u_known hgw iwBook (hgw _ w_f3320347)
  obtain ⟨c2, i2, k2⟩ := u_known hgw iwFrame (hgw _ w_a94eecd7)
  obtain ⟨c3, i3, k3⟩ := u_known hgw iwLedger (hgw _ w_aaf7952e)
  obtain ⟨c4, i4, k4⟩ := u_known hgw iwPile (hgw _ w_5bf86b5c)
  obtain ⟨c5, i5, k5⟩ := u_known hgw iwRows (hgw _ w_b4bf32f7)
  obtain ⟨c6, i6, k6⟩ := u_known hgw iwWalk (hgw _ w_90614593)
  obtain ⟨c7, i7, k7⟩ := u_known hgw iwCW (hgw _ w_effe7255)
  obtain ⟨c8, i8, k8⟩ := u_known hgw iwMF (hgw _ w_64d249f4)
  obtain ⟨c9, i9, k9⟩ := u_known hgw iwMo (hgw _ w_b5fa977d)
  obtain ⟨ai, ki, a1, a2, a3⟩ := arr_p (hgw _ w_d160d5ac)
  obtain ⟨al, kl, b1, b2, b3⟩ := arr_p (hgw _ w_f2af499d)
  obtain ⟨az, kz, z1, z2, z3⟩ := arr_p (hgw _ w_3be30871)
  obtain ⟨hN, hcN⟩ := law_N hts
  obtain ⟨ab, d1, d2⟩ := arr_o (C := "CallWalker$Behaviour") hN.2.2.2.2.1
  obtain ⟨af, f1, f2⟩ := arr_o (C := "CallWalker$Frame") hN.2.2.2.2.2.1
  obtain ⟨am, m1, m2⟩ := arr_o (C := "CallWalkerModel$Frame") hN.2.2.2.2.2.2.1
  obtain ⟨aa, ka, n1, n2, n3, n4⟩ := arr_a b2 hN.2.2.2.2.2.2.2
  obtain ⟨tb0, tb1, hT⟩ := law_T hts hgv hA
  obtain ⟨sa, hE⟩ := law_E hts hgv hA
  refine ⟨(fun i => match i with | 0 => c0 | 1 => c1 | 2 => c2 | 3 => c3 | 4 => c4 | 5 => c5 | 6 => c6 | 7 => c7 | 8 => c8 | _ => c9, fun i => match i with | 0 => i0 | 1 => i1 | 2 => i2 | 3 => i3 | 4 => i4 | 5 => i5 | 6 => i6 | 7 => i7 | 8 => i8 | _ => i9), fun i => match i with | 0 => ai | 1 => al | 2 => az | 3 => ab | 4 => af | 5 => aa | _ => am, tb0, tb1, sa, ⟨⟨fun c q h => ?_, fun k q h => ?_⟩, ⟨ka, kl, n3, n4, b3⟩, hN⟩, hT, hcN, hE⟩
  · have hlt : c < 10 := (List.getElem?_eq_some_iff.mp h).1
    rcases (show c = 0 ∨ c = 1 ∨ c = 2 ∨ c = 3 ∨ c = 4 ∨ c = 5 ∨ c = 6 ∨ c = 7 ∨ c = 8 ∨ c = 9 by omega) with rfl | rfl | rfl | rfl | rfl | rfl | rfl | rfl | rfl | rfl
    · cases h; exact k0
    · cases h; exact k1
    · cases h; exact k2
    · cases h; exact k3
    · cases h; exact k4
    · cases h; exact k5
    · cases h; exact k6
    · cases h; exact k7
    · cases h; exact k8
    · cases h; exact k9
  · have hlt : k < 7 := (List.getElem?_eq_some_iff.mp h).1
    rcases (show k = 0 ∨ k = 1 ∨ k = 2 ∨ k = 3 ∨ k = 4 ∨ k = 5 ∨ k = 6 by omega) with rfl | rfl | rfl | rfl | rfl | rfl | rfl
    · cases h; exact ⟨a1, a2⟩
    · cases h; exact ⟨b1, b2⟩
    · cases h; exact ⟨z1, z2⟩
    · cases h; exact ⟨d1, d2⟩
    · cases h; exact ⟨f1, f2⟩
    · cases h; exact ⟨n1, n2⟩
    · cases h; exact ⟨m1, m2⟩
-- the new reference
def rf0 (B : Nat) : CwS := (fun _ _ _ => 0, fun _ _ _ => 0, fun c i => if c = 101 ∧ i = 2 then B + 281 else 0)
theorem rf0_0 (B : Nat) : gR (rf0 B) 101 0 = 0 := by simp [gR, rf0]
theorem rf0_2 (B : Nat) : gR (rf0 B) 101 2 = B + 281 := by simp [gR, rf0]
theorem rf0_3 (B i : Nat) : gR (rf0 B) 103 i = 0 := by simp [gR, rf0]
theorem rf0_D (B : Nat) : rfD (lmA B) (B + 269) (rf0 B) := by
  unfold rfD
  simp only [rf0_0, rf0_2, rf0_3]
  refine ⟨fun i h => absurd h (Nat.not_lt_zero i), fun i j _ h => absurd h (Nat.not_lt_zero j), fun i h => absurd h (by omega), fun i j h => absurd h (by omega), fun k hk => ⟨Nat.le_add_right _ _, fun z => by omega⟩, fun i j h => absurd h (Nat.not_lt_zero i), fun i h => absurd h (by omega), fun q h => ⟨by omega, by omega⟩⟩
theorem rel00 (B : Nat) : Rel0 cw0 (rf0 B) := ⟨⟨fun _ _ => ⟨0, Nat.zero_le _, rfl, rfl, fun _ _ => ⟨rfl, rfl⟩⟩, rfl⟩, ⟨rfl, rfl, rfl, rfl, 0, Nat.zero_le _, rfl, rfl⟩, ⟨rfl, rfl, rfl, rfl, rfl⟩, rfl, fun _ _ => rfl, by rw [rf0_0]; exact Nat.zero_le _⟩
theorem lr_new {D : va_G} {cA : Nat → ClassId} {B : Nat} {g : Nat → va_E} {H : Heap} (hP : ∀ k, k < 281 → va_at D vwCl (B + k, g k) H) (m0 : g 269 = .inr (9, [.int 0, .ref (B + 269 + 1), .ref (B + 269 + 2), .ref (B + 269 + 3), .ref (B + 269 + 4), .ref (B + 269 + 5), .ref (B + 269 + 6), .ref (B + 269 + 7), .ref (B + 269 + 8), .ref (B + 269 + 9), .int 0, .long 0, .int 0, .int 0, .int 0, .int 0, .int 0, .int 0, .ref (B + 269 + 10)])) (m1 : g 270 = .inl (cA 0, 1152, .inl (fun _ => 0))) (m2 : g 271 = .inl (cA 0, 1152, .inl (fun _ => 0))) (m3 : g 272 = .inl (cA 0, 48, .inl (fun _ => 0))) (m4 : g 273 = .inl (cA 2, 8, .inl (fun _ => 0))) (m5 : g 274 = .inl (cA 1, 64, .inr (.inl (fun _ => 0)))) (m6 : g 275 = .inl (cA 1, 8, .inr (.inl (fun _ => 0)))) (m7 : g 276 = .inl (cA 0, 8, .inl (fun _ => 0))) (m8 : g 277 = .inl (cA 0, 40, .inl (fun _ => 0))) (m9 : g 278 = .inl (cA 1, 40, .inr (.inl (fun _ => 0)))) (m10 : g 279 = .inl (cA 6, 11, .inr (.inr (.inr (.inr (fun _ => none)))))) : rfP (B + 269) D cA (rf0 B) H := by
  refine ⟨fun k hk => ?_, fun i j hi => absurd hi (by rw [rf0_0]; exact Nat.not_lt_zero i), fun i hi => absurd hi (by rw [rf0_3]; omega)⟩
  rcases (show k = 0 ∨ k = 1 ∨ k = 2 ∨ k = 3 ∨ k = 4 ∨ k = 5 ∨ k = 6 ∨ k = 7 ∨ k = 8 ∨ k = 9 ∨ k = 10 by omega) with rfl | rfl | rfl | rfl | rfl | rfl | rfl | rfl | rfl | rfl | rfl
  · have h := hP 269 (by omega)
    rw [m0] at h
    exact h
  · have h := hP 270 (by omega)
    rw [m1] at h
    exact h
  · have h := hP 271 (by omega)
    rw [m2] at h
    exact h
  · have h := hP 272 (by omega)
    rw [m3] at h
    exact h
  · have h := hP 273 (by omega)
    rw [m4] at h
    exact h
  · have h := hP 274 (by omega)
    rw [m5] at h
    exact h
  · have h := hP 275 (by omega)
    rw [m6] at h
    exact h
  · have h := hP 276 (by omega)
    rw [m7] at h
    exact h
  · have h := hP 277 (by omega)
    rw [m8] at h
    exact h
  · have h := hP 278 (by omega)
    rw [m9] at h
    exact h
  · have h := hP 279 (by omega)
    rw [m10] at h
    show va_at D vwCl (B + 269 + 10, .inl (cA 6, 11, .inr (.inr (.inr (.inr (fun j => if j < gR (rf0 B) 101 0 then some (gR (rf0 B) 102 j) else none)))))) H
    exact at_q (fun i _ => by rw [if_neg (by rw [rf0_0]; exact Nat.not_lt_zero i)]) h
