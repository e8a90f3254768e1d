-- an array of arrays, among cells made one behind another
def mg (g : Nat → va_E) (b n : Nat) (c2 cy : ClassId) (N K : Nat) : Nat → va_E := fun j => if j = n then .inl (c2, N, .inr (.inr (.inr (.inr (fun i => if i < N then some (b + n + 1 + i) else none))))) else if n < j ∧ j < n + 1 + N then .inl (cy, K, .inr (.inl (fun _ => 0))) else g j
theorem cx_mna {p : Program} {l : Launch} {e : Env} {R : Room} {s : State} {m : MethodId} {args : Array Value} {below : List Frame} {meth : Method} {c : Code} {H : Heap} {locs : List Loc} {cells slots : Nat} {Q : State → Prop} {cc : ByteArray} {pc : Nat} {ls : Array Slot} {rest : List Value} {D : va_G} {b n : Nat} {g : Nat → va_E} (hexec : p.tables.exec = Jvm.exec) (hb : c.code = cc) {own : String} {index : Nat} (hown : s.vm.findClass own = some m.cls) (hclink : (Cond.classLink own index "[[J").before args s = true) (hover : (Cond.arrayOver (.array .long)).before args s = true) (harr : (Cond.arrayClass .long).before args s = true) {c2 cy : ClassId} (hcy : s.vm.findClass (FieldType.array .long).toString = some cy) (hc2 : s.vm.findClass ("[" ++ (FieldType.array .long).toString) = some c2) (hO : cxO D b n g s H locs) {z k : Int32} {N K : Nat} (hn : ¬ z < 0) (hk : ¬ k < 0) (hN : z.toNatClampNeg = N) (hM : k.toNatClampNeg = K)
    (hb1 : N * 4 ≤ 536870912) (hb2 : K * componentBytes .long ≤ 536870912) (hb3 : K ≤ 536870912) (hcells : cells + (1 + N) ≤ R.cells) (hslots : slots + (N + N * K) ≤ R.slots) (hdg : decode cc pc = .ok (.multianewarray index 2, 4))
    (kk : ∀ H1 : Heap, cxO D b (n + 1 + N) (mg g b n c2 cy N K) s H1 locs → W p l e R s m args below meth c H1 locs (cells + 1 + N) (slots + N + N * K) Q (F0 m (pc + 4) ls (.ref (b + n) :: rest))) : W p l e R s m args below meth c H locs cells slots Q (F0 m pc ls (.int k :: .int z :: rest)) := by
  subst hN
  subst hM
  intro T hT Xs
  obtain ⟨vm₁, cA, comp, -, fA, fC, hOo, -, X', step⟩ := Xs.multianewarray2F hexec hown (ty := .long) hclink hover harr (g := F0 m pc ls (.int k :: .int z :: rest)) rfl (by rw [hb]; exact hdg) rfl hn hk hb1 hb2 hb3 (by decide) (by decide) hcells hslots
  have ec : some cy = some comp := hcy.symm.trans fC
  cases ec
  have ec2 : some c2 = some cA := hc2.symm.trans fA
  cases ec2
  generalize hF : Jvm.Free.Multi.fill (T.setVm vm₁) c2 cy z.toNatClampNeg k.toNatClampNeg (defaultValue .long) z.toNatClampNeg = F at X' step
  have hTh : (T.setVm vm₁).heap = H := hT
  obtain ⟨f1, f2, -, -⟩ := Jvm.Free.Multi.fill_facts (T.setVm vm₁) c2 cy z.toNatClampNeg k.toNatClampNeg (defaultValue .long) z.toNatClampNeg
  rw [hF, hTh] at f1 f2
  have hold : ∀ x : Nat, x < H.size → F.heap[x]? = H[x]? := fun x hx => by
    have := Jvm.Free.Multi.fill_old (T.setVm vm₁) c2 cy z.toNatClampNeg k.toNatClampNeg (defaultValue .long) (a := x) (by rw [hTh]; exact hx) z.toNatClampNeg
    rw [hF, hTh] at this
    exact this
  have hrow : ∀ j : Nat, j < z.toNatClampNeg → F.heap[H.size + 1 + j]? = some (vp_cell cy (k.toNatClampNeg, .inr (.inl (fun _ => 0)))) := fun j hj => by
    have := Jvm.Free.Multi.fill_inner (T.setVm vm₁) c2 cy z.toNatClampNeg k.toNatClampNeg (defaultValue .long) z.toNatClampNeg j hj
    rw [hF, hTh] at this
    rw [this]
    refine congrArg some ?_
    exact arrV_new cy k.toNatClampNeg (.long 0)
  have hout : Jvm.Free.Multi.outerC c2 z.toNatClampNeg H.size z.toNatClampNeg = vp_cell c2 (z.toNatClampNeg, .inr (.inr (.inr (.inr (fun i => if i < z.toNatClampNeg then some (H.size + 1 + i) else none))))) := by
    rw [vp_cell_q]
    exact vr_outer c2 z.toNatClampNeg H.size z.toNatClampNeg
  rw [hout] at f2
  obtain ⟨o1, o2, o3⟩ := hO
  have hcx : cxO D b (n + 1 + z.toNatClampNeg) (mg g b n c2 cy z.toNatClampNeg k.toNatClampNeg) s F.heap locs := by
    refine ⟨fun q x hx => ?_, ⟨by rw [f1]; exact Nat.le_trans o2.1 (by omega), fun x h1 h2 => (hold x (Nat.lt_of_lt_of_le h1 o2.1)).trans (o2.2.1 x h1 h2), o2.2.2⟩, by rw [f1, o3]; omega⟩
    have hq : q < n + 1 + z.toNatClampNeg := by
      have h9 := (List.getElem?_eq_some_iff.mp hx).1
      unfold wd at h9
      rw [List.length_map, List.length_range] at h9
      exact h9
    have ex := (wd_get (ad := fun k => b + k) (g := mg g b n c2 cy z.toNatClampNeg k.toNatClampNeg) hq rfl).symm.trans hx
    have ex2 := Option.some.inj ex
    subst ex2
    by_cases h0 : q < n
    · have em : mg g b n c2 cy z.toNatClampNeg k.toNatClampNeg q = g q := by
        unfold mg
        rw [if_neg (by omega), if_neg (by omega)]
      rw [em]
      have ho := o1 q _ (wd_get (ad := fun k => b + k) (g := g) h0 rfl)
      exact va_at.kept ho (hold _ ho.lt)
    · by_cases h1 : q = n
      · have em : mg g b n c2 cy z.toNatClampNeg k.toNatClampNeg q = .inl (c2, z.toNatClampNeg, .inr (.inr (.inr (.inr (fun i => if i < z.toNatClampNeg then some (b + n + 1 + i) else none))))) := by
          unfold mg
          rw [if_pos h1]
        rw [em, h1]
        rw [o3] at f2
        exact f2
      · have em : mg g b n c2 cy z.toNatClampNeg k.toNatClampNeg q = .inl (cy, k.toNatClampNeg, .inr (.inl (fun _ => 0))) := by
          unfold mg
          rw [if_neg h1, if_pos (by omega)]
        rw [em]
        have hr := hrow (q - n - 1) (by omega)
        rw [o3, show b + n + 1 + (q - n - 1) = b + q by omega] at hr
        exact hr
  obtain ⟨t, a1, b1⟩ := kk F.heap hcx F rfl X'
  refine ⟨t, step t ?_, b1⟩
  have e : T.heap.size = b + n := by rw [hT]; exact o3
  rw [e]
  exact a1
