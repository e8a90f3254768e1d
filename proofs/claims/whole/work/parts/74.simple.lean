-- PURE: codes 0, 3, 4, 5, 22, 13, 14, 24, 25, 26, 28, 30, 31
theorem sI_self (b : CwS) (c i p : Nat) : sI b c i p (gI b c i p) = b := by
  refine Prod.ext ?_ rfl
  funext c' i' p'
  show gI (sI b c i p (gI b c i p)) c' i' p' = gI b c' i' p'
  rw [gI_sI]
  split
  · obtain ⟨rfl, rfl, rfl⟩ := ‹_ ∧ _›; rfl
  · rfl
theorem sL_self (b : CwS) (c i p : Nat) : sL b c i p (gL b c i p) = b := by
  refine Prod.ext rfl (Prod.ext ?_ rfl)
  funext c' i' p'
  show gL (sL b c i p (gL b c i p)) c' i' p' = gL b c' i' p'
  rw [gL_sL]
  split
  · obtain ⟨rfl, rfl, rfl⟩ := ‹_ ∧ _›; rfl
  · rfl
theorem sR_self (b : CwS) (c i : Nat) : sR b c i (gR b c i) = b := by
  refine Prod.ext rfl (Prod.ext rfl ?_)
  funext c' i'
  show gR (sR b c i (gR b c i)) c' i' = gR b c' i'
  rw [gR_sR]
  split
  · obtain ⟨rfl, rfl⟩ := ‹_ ∧ _›; rfl
  · rfl
theorem bP_self (b : CwS) (i h : Nat) : bP b i h (gI b 21 i h) (gL b 7 i h) (gR b 50 (16 * i + h)) = sI b 18 i 0 (nI (h + 1)) := by
  unfold bP
  rw [sI_self, sL_self, sR_self]
theorem vR.isR {a b : CwS} {i base : Nat} {kd : Int32} {va vb : Int64} {r : Nat} (h : vR a b i base kd va vb r) : r = 0 ∨ isRow b r = true := by
  rcases h with ⟨_, _, h⟩ | ⟨_, ρ, α, n, _, _, h2, _, _, h3, _⟩
  · exact Or.inl h
  · refine Or.inr (decide_eq_true ⟨by omega, ?_⟩)
    rw [h2]; exact h3
variable {a b : CwS} {i base T F S c bb n hn h H : Nat} (RAN : Nat → Int64 → CwS → Option (Int32 × CwS))
theorem g_0 (r : Rel a b i base T F S c bb n hn h H) (g : h < 12) (x x6 : Int32) : Good a b i base T F S c bb (j_Pile_putNumber i x.toInt64 a) (j_Mo_done_L202 RAN i 0 x x6 b) := by
  unfold j_Mo_done_L202
  rw [if_pos rfl]
  exact gd_put r g _
theorem g_4 (r : Rel a b i base T F S c bb n hn h H) (x x6 : Int32) : Good a b i base T F S c bb (some (0, a)) (j_Mo_done_L202 RAN i 4 x x6 b) := by
  unfold j_Mo_done_L202
  rw [if_neg (by decide), if_neg (by decide), if_neg (by decide), if_neg (by decide), if_pos rfl]
  exact gd_fail 0 (by omega) r
theorem g_22 (r : Rel a b i base T F S c bb n hn h H) (g : h < 12) (x x6 : Int32) : Good a b i base T F S c bb (j_Pile_put i 3 0 a) (j_Mo_done_L202 RAN i 22 x x6 b) := by
  unfold j_Mo_done_L202
  rw [if_neg (by decide), if_neg (by decide), if_neg (by decide), if_neg (by decide), if_neg (by decide), if_neg (by decide), if_pos rfl, q_put r.hi.1 g, q_push r.hi.2.1 (by omega) (Or.inl rfl), bV_s]
  exact ⟨0, n, hn, h + 1, _, _, rfl, rfl, by omega, r.push0 g 3 (Or.inr rfl) 0, (SameC.refl _ _).put, (SameM.refl _ _ _).put, rfl, Nat.le_succ _, Nat.le_add_right _ _⟩
theorem g_3 (r : Rel a b i base T F S c bb n hn h (h + 1)) (hH : gI a 19 i 0 = nI (h + 1)) (g : h + 1 < 12) (x : Int32) : Good a b i base T F S c bb (j_Walk_putTwice i a) (j_Mo_done_L202 RAN i 3 x (nI h) b) := by
  have q := r.hi
  have t0 : j_Pile_tookKind i (0 : Int32) a = _ := tkK 0 h hH rfl q.2.2.2
  have t1 : j_Pile_took i (0 : Int32) a = _ := tkN 0 h hH rfl q.2.2.2
  have v := r.vr h (by omega)
  have r1 := r.push (by omega) v (fun p hp => r.pile.2 p h (by omega) (by omega))
  have r2 := r1.push g (kd := gI a 17 i h) (va := gL a 6 i h) (vb := gL b 7 i h) (rr := gR b 50 (16 * i + h)) v (fun p hp => by
    have z := r1.pile.2 p h hp (by omega)
    rw [aP_k h, aP_n h, bP_r h, if_pos rfl, if_pos rfl, if_pos rfl] at z
    exact z)
  unfold j_Walk_putTwice j_Mo_done_L202
  rw [if_neg (by decide), if_neg (by decide), if_neg (by decide), if_pos rfl, t0, bR_s, t1, bR_s, q_put q.1 (by omega), bR_s, q_put aP_h g, bR_s, ckn (by omega) (by omega), ckn (by omega) (by omega), ckn (by omega) (by omega), nI_clamp (by omega), q.2.1, nI_1]
  have e : sI b 18 i 0 (nI (h + 1)) = bP b i h (gI a 17 i h) (gL b 7 i h) (gR b 50 (16 * i + h)) := by rw [← bP_self, r.kd h (by omega)]
  have e1 : j_MF_push i (gI (sI b 18 i 0 (nI (h + 1))) 21 i h) (gL (sI b 18 i 0 (nI (h + 1))) 7 i h) (gR (sI b 18 i 0 (nI (h + 1))) 50 (16 * i + h)) (sI b 18 i 0 (nI (h + 1))) = some (bP (sI b 18 i 0 (nI (h + 1))) i (h + 1) (gI b 21 i h) (gL b 7 i h) (gR b 50 (16 * i + h))) := q_push gI_18 (by omega) v.isR
  rw [e1, bV_s, e, r.kd h (by omega)]
  exact ⟨0, n, hn, h + 1 + 1, _, _, rfl, rfl, by omega, r2, (SameC.refl _ _).put.put, (SameM.refl _ _ _).put.put, rfl, Nat.le_succ _, Nat.le_add_right _ _⟩
theorem g_5 (r : Rel a b i base T F S c bb n hn h (h + 2)) (hH : gI a 19 i 0 = nI (h + 2)) (x : Int32) : Good a b i base T F S c bb (j_Walk_putSwapped i a) (j_Mo_done_L202 RAN i 5 x (nI h) b) := by
  have q := r.hi
  have t0 : j_Pile_tookKind i (0 : Int32) a = _ := tkK 0 (h + 1) hH rfl q.2.2.2
  have t1 : j_Pile_took i (0 : Int32) a = _ := tkN 0 (h + 1) hH rfl q.2.2.2
  have t2 : j_Pile_tookKind i (1 : Int32) a = _ := tkK 1 h hH rfl q.2.2.2
  have t3 : j_Pile_took i (1 : Int32) a = _ := tkN 1 h hH rfl q.2.2.2
  have v := r.vr h (by omega)
  have w := r.vr (h + 1) (by omega)
  have r1 := r.push (by omega) w (fun p hp => r.pile.2 p (h + 1) (by omega) (by omega))
  have r2 := r1.push (by omega) (kd := gI a 17 i h) (va := gL a 6 i h) (vb := gL b 7 i h) (rr := gR b 50 (16 * i + h)) v (fun p hp => by
    rw [aP_k p, aP_n p, bP_r p]
    by_cases e : p = h
    · rw [if_pos e, if_pos e, if_pos e]
      exact r.pile.2 (h + 1) h (by omega) (by omega)
    · rw [if_neg e, if_neg e, if_neg e]
      exact r.pile.2 p h (by omega) (by omega))
  unfold j_Walk_putSwapped j_Mo_done_L202
  rw [if_neg (by decide), if_neg (by decide), if_neg (by decide), if_neg (by decide), if_neg (by decide), if_pos rfl, t0, bR_s, t1, bR_s, t2, bR_s, t3, bR_s, q_put q.1 (by omega), bR_s, q_put aP_h (by omega), bR_s, nI_1, ckn (by omega) (by omega), ckn (by omega) (by omega), ckn (by omega) (by omega), ckn (by omega) (by omega), ckn (by omega) (by omega), ckn (by omega) (by omega), nI_clamp (by omega), nI_clamp (by omega), q_push q.2.1 (by omega) w.isR, bV_s, q_push bP_h (by omega) v.isR, bV_s, r.kd h (by omega), r.kd (h + 1) (by omega)]
  exact ⟨0, n, hn, h + 1 + 1, _, _, rfl, rfl, by omega, r2, (SameC.refl _ _).put.put, (SameM.refl _ _ _).put.put, rfl, Nat.le_succ _, Nat.le_add_right _ _⟩
