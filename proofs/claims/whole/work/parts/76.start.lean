def kb_M : ax_M := (fun k _ j => if k = 1 then (if j = 6 then 1 else 0) else if k = 8 then (if j = 0 then -1 else 0) else if k = 22 then (if j = 9 then 1 else 0) else if k = 31 then (if j < 8 then -1 else 0) else 0, fun _ _ _ => 0)
def kb_G0 : zG := (fun _ _ => 0, (fun _ => false, 1))
theorem kb_lb0 : ∀ n, lbn (fun _ => false) n = 0
  | 0 => rfl
  | n + 1 => by rw [lbn, kb_lb0 n]; rfl
theorem kb_zR : zR kb_M := by
  refine ⟨kb_G0, ⟨by decide, by decide, fun _ _ => Nat.zero_lt_succ 63, fun _ _ => rfl, fun _ _ _ _ => Nat.zero_le 999, fun _ _ _ _ _ => rfl, fun _ _ => ⟨Nat.zero_lt_succ 5, Nat.zero_le 9, Nat.zero_lt_succ 63, Nat.zero_lt_succ 7⟩, fun i hi => absurd hi (Nat.not_lt_zero i)⟩, ⟨rfl, rfl, rfl, (kb_lb0 64).symm, fun _ _ => rfl, fun _ _ _ _ => rfl, fun _ _ => ⟨rfl, rfl, rfl, rfl⟩⟩, ⟨rfl, rfl, rfl, fun _ _ => rfl, fun _ _ => rfl, fun _ _ _ _ => rfl, fun _ _ => ⟨rfl, rfl, rfl, rfl⟩⟩, .inl ⟨rfl, rfl⟩, fun s hs => .inl ⟨rfl, if_pos hs, rfl⟩, ⟨0, by omega, rfl, rfl, fun i hi => absurd hi (Nat.not_lt_zero i)⟩, fun _ _ => rfl⟩
/-- where each cell lies -/
def kb_ad (a b : Nat) (f g : Nat → Nat) (F : Nat → Nat → Nat) (u v : Nat → Nat) (z : Nat → Nat → Nat) : Nat → Nat → Nat := fun k i => match k with
  | 0 => a
  | 1 => if i = 0 then f 0 else if i = 1 then f 1 else f 2
  | 2 => if i = 0 then f 10 else if i = 1 then f 14 else f 18
  | 3 => if i = 0 then f 11 else if i = 1 then f 15 else f 19
  | 4 => if i = 0 then f 13 else if i = 1 then f 17 else f 21
  | 5 => if i = 0 then f 12 else if i = 1 then f 16 else f 20
  | 6 => F (i / 16) (i % 16)
  | 7 => f 3
  | 8 => u i
  | 9 => v i
  | 10 => f 22
  | 11 => f 23
  | 12 => f 4
  | 13 => f 5
  | 14 => f 24
  | 15 => f 6
  | 16 => f 25
  | 17 => f 26
  | 18 => f 7
  | 19 => f 27
  | 20 => f 8
  | 21 => f 9
  | 22 => b
  | 23 => g 0
  | 24 => g 1
  | 25 => g 2
  | 26 => g 3
  | 27 => g 4
  | 28 => g 5
  | 29 => g 6
  | 30 => g 7
  | 31 => g 8
  | 32 => g 9
  | 33 => g 10
  | 34 => g 11
  | 35 => g 12
  | 36 => g 13
  | 37 => g 14
  | 38 => g 15
  | 39 => g 16
  | k => z k i
def kb_ids : List (Nat × Nat) := [(0, 0), (1, 0), (1, 1), (1, 2), (2, 0), (2, 1), (2, 2), (3, 0), (3, 1), (3, 2), (4, 0), (4, 1), (4, 2), (5, 0), (5, 1), (5, 2), (6, 0), (6, 1), (6, 2), (6, 3), (6, 4), (6, 5), (6, 6), (6, 7), (6, 8), (6, 9), (6, 10), (6, 11), (6, 12), (6, 13), (6, 14), (6, 15), (6, 16), (6, 17), (6, 18), (6, 19), (6, 20), (6, 21), (6, 22), (6, 23), (6, 24), (6, 25), (6, 26), (6, 27), (6, 28), (6, 29), (6, 30), (6, 31), (6, 32), (6, 33), (6, 34), (6, 35), (6, 36), (6, 37), (6, 38), (6, 39), (6, 40), (6, 41), (6, 42), (6, 43), (6, 44), (6, 45), (6, 46), (6, 47), (7, 0), (8, 0), (8, 1), (8, 2), (8, 3), (8, 4), (8, 5), (8, 6), (8, 7), (9, 0), (9, 1), (9, 2), (9, 3), (9, 4), (9, 5), (9, 6), (9, 7), (10, 0), (11, 0), (12, 0), (13, 0), (14, 0), (15, 0), (16, 0), (17, 0), (18, 0), (19, 0), (20, 0), (21, 0), (22, 0), (23, 0), (24, 0), (25, 0), (26, 0), (27, 0), (28, 0), (29, 0), (30, 0), (31, 0), (32, 0), (33, 0), (34, 0), (35, 0), (36, 0), (37, 0), (38, 0), (39, 0)]
theorem kb_ids_eq : ax_ids = kb_ids := by decide +kernel
def kb_ord : List (Nat × Nat) := [(0, 0), (7, 0), (1, 0), (2, 0), (3, 0), (4, 0), (5, 0), (6, 0), (6, 1), (6, 2), (6, 3), (6, 4), (6, 5), (6, 6), (6, 7), (6, 8), (6, 9), (6, 10), (6, 11), (6, 12), (6, 13), (6, 14), (6, 15), (1, 1), (2, 1), (3, 1), (4, 1), (5, 1), (6, 16), (6, 17), (6, 18), (6, 19), (6, 20), (6, 21), (6, 22), (6, 23), (6, 24), (6, 25), (6, 26), (6, 27), (6, 28), (6, 29), (6, 30), (6, 31), (1, 2), (2, 2), (3, 2), (4, 2), (5, 2), (6, 32), (6, 33), (6, 34), (6, 35), (6, 36), (6, 37), (6, 38), (6, 39), (6, 40), (6, 41), (6, 42), (6, 43), (6, 44), (6, 45), (6, 46), (6, 47), (12, 0), (10, 0), (11, 0), (13, 0), (14, 0), (15, 0), (16, 0), (17, 0), (18, 0), (19, 0), (20, 0), (21, 0), (8, 0), (9, 0), (8, 1), (9, 1), (8, 2), (9, 2), (8, 3), (9, 3), (8, 4), (9, 4), (8, 5), (9, 5), (8, 6), (9, 6), (8, 7), (9, 7), (22, 0), (31, 0), (23, 0), (24, 0), (25, 0), (26, 0), (27, 0), (28, 0), (29, 0), (30, 0), (32, 0), (33, 0), (34, 0), (35, 0), (36, 0), (37, 0), (38, 0), (39, 0)]
theorem kb_ord_in : ∀ q ∈ kb_ids, q ∈ kb_ord := by decide +kernel
theorem kb_row {cA : ClassId} {n : Nat} {f f2 : Nat → Option Nat} {H : Heap} {a : Nat} {D : va_G} (h : ∀ j, j < n → f j = f2 j) (hp : va_at D vwCl (a, .inl (cA, (n, .inr (.inr (.inr (.inr f)))))) H) : va_at D vwCl (a, .inl (cA, (n, .inr (.inr (.inr (.inr f2)))))) H := by
  have e : arrV cA n (fun j => va_rf (f j)) = arrV cA n (fun j => va_rf (f2 j)) := by
    unfold arrV
    congr 2
    funext j
    show va_rf (f j.1) = va_rf (f2 j.1)
    rw [h j.1 j.2]
  show H[a]? = some (vp_cell cA (n, .inr (.inr (.inr (.inr f2)))))
  rw [vp_cell_q, ← e, ← vp_cell_q]
  exact hp
theorem kb_l16 (L : List Nat) (h : L.length = 16) : ∃ f : Nat → Nat, L = (List.range 16).map f := by
  refine ⟨fun i => L.getD i 0, List.ext_getElem? (fun i => ?_)⟩
  by_cases hi : i < 16
  · rw [List.getElem?_map, List.getElem?_range hi, List.getElem?_eq_getElem (by omega)]
    simp [List.getD, List.getElem?_eq_getElem (show i < L.length by omega)]
  · rw [List.getElem?_eq_none (by omega), List.getElem?_eq_none (by simp; omega)]
theorem kb_l8 (L : List (Nat × Nat)) (h : L.length = 8) : ∃ u v : Nat → Nat, L = (List.range 8).map (fun s => (u s, v s)) := by
  refine ⟨fun i => (L.getD i (0, 0)).1, fun i => (L.getD i (0, 0)).2, List.ext_getElem? (fun i => ?_)⟩
  by_cases hi : i < 8
  · rw [List.getElem?_map, List.getElem?_range hi, List.getElem?_eq_getElem (by omega)]
    simp [List.getD, List.getElem?_eq_getElem (show i < L.length by omega)]
  · rw [List.getElem?_eq_none (by omega), List.getElem?_eq_none (by simp; omega)]
abbrev kb_WW (Ca : Nat → ClassId) (a b : Nat) (f g : Nat → Nat) (F : Nat → Nat → Nat) (u v : Nat → Nat) : va_W := kb_W10 Ca a f (fun k => (List.range 16).map (F k)) ((List.range 8).map (fun s => (u s, v s))) ++ kb_W11 Ca b g
def kb_LL (Ca : Nat → ClassId) (a b : Nat) (f g : Nat → Nat) (F : Nat → Nat → Nat) (u v : Nat → Nat) : va_W := [((a), .inr (9, [.ref (f 0), .ref (f 1), .ref (f 2), .int (0), .ref (f 3), .ref (f 4), .ref (f 5), .ref (f 6), .ref (f 7), .ref (f 8), .ref (f 9)])), ((f 3), .inl (Ca 5, (8, .inr (.inr (.inr (.inr (fun j => (((List.range 8).map (fun s => (u s, v s)))[j]?).map Prod.fst))))))), ((f 0), .inr (2, [.long 0, .int (0), .ref (f 10), .ref (f 11), .int (0), .ref (f 12), .int (1)])), ((f 10), .inl (Ca 1, (8, .inl (fun _ => 0)))), ((f 11), .inr (1, [.ref (f 13)])), ((f 13), .inl (Ca 1, (64, .inl (fun _ => 0)))), ((f 12), .inl (Ca 4, (16, .inr (.inr (.inr (.inr (fun j => ((List.range 16).map (F 0))[j]?))))))), ((F 0 0), .inr (5, [.int (0), .int (0), .int (0), .int (0)])), ((F 0 1), .inr (5, [.int (0), .int (0), .int (0), .int (0)])), ((F 0 2), .inr (5, [.int (0), .int (0), .int (0), .int (0)])), ((F 0 3), .inr (5, [.int (0), .int (0), .int (0), .int (0)])), ((F 0 4), .inr (5, [.int (0), .int (0), .int (0), .int (0)])), ((F 0 5), .inr (5, [.int (0), .int (0), .int (0), .int (0)])), ((F 0 6), .inr (5, [.int (0), .int (0), .int (0), .int (0)])), ((F 0 7), .inr (5, [.int (0), .int (0), .int (0), .int (0)])), ((F 0 8), .inr (5, [.int (0), .int (0), .int (0), .int (0)])), ((F 0 9), .inr (5, [.int (0), .int (0), .int (0), .int (0)])), ((F 0 10), .inr (5, [.int (0), .int (0), .int (0), .int (0)])), ((F 0 11), .inr (5, [.int (0), .int (0), .int (0), .int (0)])), ((F 0 12), .inr (5, [.int (0), .int (0), .int (0), .int (0)])), ((F 0 13), .inr (5, [.int (0), .int (0), .int (0), .int (0)])), ((F 0 14), .inr (5, [.int (0), .int (0), .int (0), .int (0)])), ((F 0 15), .inr (5, [.int (0), .int (0), .int (0), .int (0)])), ((f 1), .inr (2, [.long 0, .int (0), .ref (f 14), .ref (f 15), .int (0), .ref (f 16), .int (1)])), ((f 14), .inl (Ca 1, (8, .inl (fun _ => 0)))), ((f 15), .inr (1, [.ref (f 17)])), ((f 17), .inl (Ca 1, (64, .inl (fun _ => 0)))), ((f 16), .inl (Ca 4, (16, .inr (.inr (.inr (.inr (fun j => ((List.range 16).map (F 1))[j]?))))))), ((F 1 0), .inr (5, [.int (0), .int (0), .int (0), .int (0)])), ((F 1 1), .inr (5, [.int (0), .int (0), .int (0), .int (0)])), ((F 1 2), .inr (5, [.int (0), .int (0), .int (0), .int (0)])), ((F 1 3), .inr (5, [.int (0), .int (0), .int (0), .int (0)])), ((F 1 4), .inr (5, [.int (0), .int (0), .int (0), .int (0)])), ((F 1 5), .inr (5, [.int (0), .int (0), .int (0), .int (0)])), ((F 1 6), .inr (5, [.int (0), .int (0), .int (0), .int (0)])), ((F 1 7), .inr (5, [.int (0), .int (0), .int (0), .int (0)])), ((F 1 8), .inr (5, [.int (0), .int (0), .int (0), .int (0)])), ((F 1 9), .inr (5, [.int (0), .int (0), .int (0), .int (0)])), ((F 1 10), .inr (5, [.int (0), .int (0), .int (0), .int (0)])), ((F 1 11), .inr (5, [.int (0), .int (0), .int (0), .int (0)])), ((F 1 12), .inr (5, [.int (0), .int (0), .int (0), .int (0)])), ((F 1 13), .inr (5, [.int (0), .int (0), .int (0), .int (0)])), ((F 1 14), .inr (5, [.int (0), .int (0), .int (0), .int (0)])), ((F 1 15), .inr (5, [.int (0), .int (0), .int (0), .int (0)])), ((f 2), .inr (2, [.long 0, .int (0), .ref (f 18), .ref (f 19), .int (0), .ref (f 20), .int (1)])), ((f 18), .inl (Ca 1, (8, .inl (fun _ => 0)))), ((f 19), .inr (1, [.ref (f 21)])), ((f 21), .inl (Ca 1, (64, .inl (fun _ => 0)))), ((f 20), .inl (Ca 4, (16, .inr (.inr (.inr (.inr (fun j => ((List.range 16).map (F 2))[j]?))))))), ((F 2 0), .inr (5, [.int (0), .int (0), .int (0), .int (0)])), ((F 2 1), .inr (5, [.int (0), .int (0), .int (0), .int (0)])), ((F 2 2), .inr (5, [.int (0), .int (0), .int (0), .int (0)])), ((F 2 3), .inr (5, [.int (0), .int (0), .int (0), .int (0)])), ((F 2 4), .inr (5, [.int (0), .int (0), .int (0), .int (0)])), ((F 2 5), .inr (5, [.int (0), .int (0), .int (0), .int (0)])), ((F 2 6), .inr (5, [.int (0), .int (0), .int (0), .int (0)])), ((F 2 7), .inr (5, [.int (0), .int (0), .int (0), .int (0)])), ((F 2 8), .inr (5, [.int (0), .int (0), .int (0), .int (0)])), ((F 2 9), .inr (5, [.int (0), .int (0), .int (0), .int (0)])), ((F 2 10), .inr (5, [.int (0), .int (0), .int (0), .int (0)])), ((F 2 11), .inr (5, [.int (0), .int (0), .int (0), .int (0)])), ((F 2 12), .inr (5, [.int (0), .int (0), .int (0), .int (0)])), ((F 2 13), .inr (5, [.int (0), .int (0), .int (0), .int (0)])), ((F 2 14), .inr (5, [.int (0), .int (0), .int (0), .int (0)])), ((F 2 15), .inr (5, [.int (0), .int (0), .int (0), .int (0)])), ((f 4), .inr (3, [.ref (f 22), .int (0), .int (0), .int (0)])), ((f 22), .inr (7, [.ref (f 23), .int (0)])), ((f 23), .inl (Ca 1, (250, .inl (fun _ => 0)))), ((f 5), .inr (8, [.ref (f 24)])), ((f 24), .inl (Ca 3, (64, .inr (.inl (fun _ => 0))))), ((f 6), .inr (4, [.ref (f 25), .ref (f 26)])), ((f 25), .inl (Ca 1, (8, .inl (fun _ => 0)))), ((f 26), .inl (Ca 1, (8, .inl (fun _ => 0)))), ((f 7), .inr (0, [.ref (f 27)])), ((f 27), .inl (Ca 1, (3, .inl (fun _ => 0)))), ((f 8), .inl (Ca 1, (5, .inl (fun _ => 0)))), ((f 9), .inl (Ca 1, (8, .inl (fun _ => 0)))), ((u 0), .inr (6, [.int (-1), .int (0), .ref (v 0)])), ((v 0), .inl (Ca 3, (40, .inr (.inl (fun _ => 0))))), ((u 1), .inr (6, [.int (-1), .int (0), .ref (v 1)])), ((v 1), .inl (Ca 3, (40, .inr (.inl (fun _ => 0))))), ((u 2), .inr (6, [.int (-1), .int (0), .ref (v 2)])), ((v 2), .inl (Ca 3, (40, .inr (.inl (fun _ => 0))))), ((u 3), .inr (6, [.int (-1), .int (0), .ref (v 3)])), ((v 3), .inl (Ca 3, (40, .inr (.inl (fun _ => 0))))), ((u 4), .inr (6, [.int (-1), .int (0), .ref (v 4)])), ((v 4), .inl (Ca 3, (40, .inr (.inl (fun _ => 0))))), ((u 5), .inr (6, [.int (-1), .int (0), .ref (v 5)])), ((v 5), .inl (Ca 3, (40, .inr (.inl (fun _ => 0))))), ((u 6), .inr (6, [.int (-1), .int (0), .ref (v 6)])), ((v 6), .inl (Ca 3, (40, .inr (.inl (fun _ => 0))))), ((u 7), .inr (6, [.int (-1), .int (0), .ref (v 7)])), ((v 7), .inl (Ca 3, (40, .inr (.inl (fun _ => 0))))), ((b), .inr (10, [.ref (g 0), .int (0), .ref (g 1), .ref (g 2), .int (0), .ref (g 3), .ref (g 4), .ref (g 5), .ref (g 6), .int (1), .int (0), .ref (g 7), .int (0), .int (0), .int (0), .int (0), .ref (g 8), .ref (g 9), .ref (g 10), .ref (g 11), .int (0), .ref (g 12), .ref (g 13), .ref (g 14), .ref (g 15), .ref (g 16)])), ((g 8), .inl (Ca 1, (8, .inl (fun j => if j < 8 then (-1 : Int32) else 0)))), ((g 0), .inl (Ca 2, (64, .inl (fun _ => 0)))), ((g 1), .inl (Ca 1, (8, .inl (fun _ => 0)))), ((g 2), .inl (Ca 1, (64, .inl (fun _ => 0)))), ((g 3), .inl (Ca 1, (16, .inl (fun _ => 0)))), ((g 4), .inl (Ca 1, (16, .inl (fun _ => 0)))), ((g 5), .inl (Ca 1, (16, .inl (fun _ => 0)))), ((g 6), .inl (Ca 1, (16, .inl (fun _ => 0)))), ((g 7), .inl (Ca 1, (250, .inl (fun _ => 0)))), ((g 9), .inl (Ca 1, (8, .inl (fun _ => 0)))), ((g 10), .inl (Ca 3, (320, .inr (.inl (fun _ => 0))))), ((g 11), .inl (Ca 1, (7, .inl (fun _ => 0)))), ((g 12), .inl (Ca 1, (203, .inl (fun _ => 0)))), ((g 13), .inl (Ca 1, (203, .inl (fun _ => 0)))), ((g 14), .inl (Ca 1, (64, .inl (fun _ => 0)))), ((g 15), .inl (Ca 1, (8, .inl (fun _ => 0)))), ((g 16), .inl (Ca 1, (3, .inl (fun _ => 0))))]
set_option maxHeartbeats 8000000 in
set_option maxRecDepth 100000 in
theorem kb_WL (Ca : Nat → ClassId) (a b : Nat) (f g : Nat → Nat) (F : Nat → Nat → Nat) (u v : Nat → Nat) : kb_WW Ca a b f g F u v = kb_LL Ca a b f g F u v := rfl
set_option maxHeartbeats 8000000 in
set_option maxRecDepth 100000 in
theorem kb_LA (Ca : Nat → ClassId) (a b : Nat) (f g : Nat → Nat) (F : Nat → Nat → Nat) (u v : Nat → Nat) (z : Nat → Nat → Nat) : (kb_LL Ca a b f g F u v).map Prod.fst = kb_ord.map (fun q => (kb_ad a b f g F u v z) q.1 q.2) := rfl
theorem kb_hd {D : va_G} {x : Nat × va_E} {l : va_W} {H : Heap} (h : va_P D vwCl (x :: l) H) : va_at D vwCl x H := h 0 x rfl
theorem kb_tl {D : va_G} {x : Nat × va_E} {l : va_W} {H : Heap} (h : va_P D vwCl (x :: l) H) : va_P D vwCl l H := fun k q hk => h (k + 1) q hk
def kb_fsr (ad : Nat → Nat → Nat) (m : ax_M) (k i : Nat) : Nat → List (Nat × (Nat × Nat)) → List Value
  | _, [] => []
  | j, x :: l => ax_fv ad m k i j x :: kb_fsr ad m k i (j + 1) l
theorem kb_fsr_eq (ad : Nat → Nat → Nat) (m : ax_M) (k i : Nat) : ∀ (l : List (Nat × (Nat × Nat))) (n : Nat), l.mapIdx (fun j x => ax_fv ad m k i (j + n) x) = kb_fsr ad m k i n l
  | [], n => rfl
  | x :: l, n => by
    rw [List.mapIdx_cons, kb_fsr, ← kb_fsr_eq ad m k i l (n + 1)]
    congr 1
    · rw [Nat.zero_add]
    · congr 1
      funext j y
      rw [Nat.add_assoc, Nat.add_comm 1 n]
theorem kb_fs (ad : Nat → Nat → Nat) (m : ax_M) (k i : Nat) : ax_fs ad m k i = kb_fsr ad m k i 0 (ax_fd k) := by
  rw [← kb_fsr_eq]
  rfl
theorem kb_cell (Ca : Nat → ClassId) {ad : Nat → Nat → Nat} {m : ax_M} {k i c : Nat} {fs : List Value} (h : ax_ty k = 0) (hc : (ax_ct k).1 = c) (hf : kb_fsr ad m k i 0 (ax_fd k) = fs) : ax_cell Ca ad m k i = .inr (c, fs) := by
  unfold ax_cell
  rw [h, kb_fs, hf, hc]
  rfl
theorem kb_c0 (Ca : Nat → ClassId) (ad : Nat → Nat → Nat) (i : Nat) : ax_cell Ca ad kb_M 0 i = .inr (9, [.ref (ad 1 0), .ref (ad 1 1), .ref (ad 1 2), .int (0), .ref (ad 7 0), .ref (ad 12 0), .ref (ad 13 0), .ref (ad 15 0), .ref (ad 18 0), .ref (ad 20 0), .ref (ad 21 0)]) := kb_cell Ca rfl rfl rfl
theorem kb_c1 (Ca : Nat → ClassId) (ad : Nat → Nat → Nat) (i : Nat) : ax_cell Ca ad kb_M 1 i = .inr (2, [.long 0, .int (0), .ref (ad 2 i), .ref (ad 3 i), .int (0), .ref (ad 5 i), .int (1)]) := kb_cell Ca rfl rfl rfl
theorem kb_c2 (Ca : Nat → ClassId) (ad : Nat → Nat → Nat) (i : Nat) : ax_cell Ca ad kb_M 2 i = .inl (Ca 1, (8, .inl (fun _ => 0))) := rfl
theorem kb_c3 (Ca : Nat → ClassId) (ad : Nat → Nat → Nat) (i : Nat) : ax_cell Ca ad kb_M 3 i = .inr (1, [.ref (ad 4 i)]) := kb_cell Ca rfl rfl rfl
theorem kb_c4 (Ca : Nat → ClassId) (ad : Nat → Nat → Nat) (i : Nat) : ax_cell Ca ad kb_M 4 i = .inl (Ca 1, (64, .inl (fun _ => 0))) := rfl
theorem kb_c5 (Ca : Nat → ClassId) (ad : Nat → Nat → Nat) (i : Nat) : ax_cell Ca ad kb_M 5 i = .inl (Ca 4, (16, .inr (.inr (.inr (.inr (fun j => some (ad 6 (16 * i + j)))))))) := rfl
theorem kb_c6 (Ca : Nat → ClassId) (ad : Nat → Nat → Nat) (i : Nat) : ax_cell Ca ad kb_M 6 i = .inr (5, [.int (0), .int (0), .int (0), .int (0)]) := kb_cell Ca rfl rfl rfl
theorem kb_c7 (Ca : Nat → ClassId) (ad : Nat → Nat → Nat) (i : Nat) : ax_cell Ca ad kb_M 7 i = .inl (Ca 5, (8, .inr (.inr (.inr (.inr (fun j => some (ad 8 (8 * i + j)))))))) := rfl
theorem kb_c8 (Ca : Nat → ClassId) (ad : Nat → Nat → Nat) (i : Nat) : ax_cell Ca ad kb_M 8 i = .inr (6, [.int (-1), .int (0), .ref (ad 9 i)]) := kb_cell Ca rfl rfl rfl
theorem kb_c9 (Ca : Nat → ClassId) (ad : Nat → Nat → Nat) (i : Nat) : ax_cell Ca ad kb_M 9 i = .inl (Ca 3, (40, .inr (.inl (fun _ => 0)))) := rfl
theorem kb_c10 (Ca : Nat → ClassId) (ad : Nat → Nat → Nat) (i : Nat) : ax_cell Ca ad kb_M 10 i = .inr (7, [.ref (ad 11 0), .int (0)]) := kb_cell Ca rfl rfl rfl
theorem kb_c11 (Ca : Nat → ClassId) (ad : Nat → Nat → Nat) (i : Nat) : ax_cell Ca ad kb_M 11 i = .inl (Ca 1, (250, .inl (fun _ => 0))) := rfl
theorem kb_c12 (Ca : Nat → ClassId) (ad : Nat → Nat → Nat) (i : Nat) : ax_cell Ca ad kb_M 12 i = .inr (3, [.ref (ad 10 0), .int (0), .int (0), .int (0)]) := kb_cell Ca rfl rfl rfl
theorem kb_c13 (Ca : Nat → ClassId) (ad : Nat → Nat → Nat) (i : Nat) : ax_cell Ca ad kb_M 13 i = .inr (8, [.ref (ad 14 0)]) := kb_cell Ca rfl rfl rfl
theorem kb_c14 (Ca : Nat → ClassId) (ad : Nat → Nat → Nat) (i : Nat) : ax_cell Ca ad kb_M 14 i = .inl (Ca 3, (64, .inr (.inl (fun _ => 0)))) := rfl
theorem kb_c15 (Ca : Nat → ClassId) (ad : Nat → Nat → Nat) (i : Nat) : ax_cell Ca ad kb_M 15 i = .inr (4, [.ref (ad 16 0), .ref (ad 17 0)]) := kb_cell Ca rfl rfl rfl
theorem kb_c16 (Ca : Nat → ClassId) (ad : Nat → Nat → Nat) (i : Nat) : ax_cell Ca ad kb_M 16 i = .inl (Ca 1, (8, .inl (fun _ => 0))) := rfl
theorem kb_c17 (Ca : Nat → ClassId) (ad : Nat → Nat → Nat) (i : Nat) : ax_cell Ca ad kb_M 17 i = .inl (Ca 1, (8, .inl (fun _ => 0))) := rfl
theorem kb_c18 (Ca : Nat → ClassId) (ad : Nat → Nat → Nat) (i : Nat) : ax_cell Ca ad kb_M 18 i = .inr (0, [.ref (ad 19 0)]) := kb_cell Ca rfl rfl rfl
theorem kb_c19 (Ca : Nat → ClassId) (ad : Nat → Nat → Nat) (i : Nat) : ax_cell Ca ad kb_M 19 i = .inl (Ca 1, (3, .inl (fun _ => 0))) := rfl
theorem kb_c20 (Ca : Nat → ClassId) (ad : Nat → Nat → Nat) (i : Nat) : ax_cell Ca ad kb_M 20 i = .inl (Ca 1, (5, .inl (fun _ => 0))) := rfl
theorem kb_c21 (Ca : Nat → ClassId) (ad : Nat → Nat → Nat) (i : Nat) : ax_cell Ca ad kb_M 21 i = .inl (Ca 1, (8, .inl (fun _ => 0))) := rfl
theorem kb_c22 (Ca : Nat → ClassId) (ad : Nat → Nat → Nat) (i : Nat) : ax_cell Ca ad kb_M 22 i = .inr (10, [.ref (ad 23 0), .int (0), .ref (ad 24 0), .ref (ad 25 0), .int (0), .ref (ad 26 0), .ref (ad 27 0), .ref (ad 28 0), .ref (ad 29 0), .int (1), .int (0), .ref (ad 30 0), .int (0), .int (0), .int (0), .int (0), .ref (ad 31 0), .ref (ad 32 0), .ref (ad 33 0), .ref (ad 34 0), .int (0), .ref (ad 35 0), .ref (ad 36 0), .ref (ad 37 0), .ref (ad 38 0), .ref (ad 39 0)]) := kb_cell Ca rfl rfl rfl
theorem kb_c23 (Ca : Nat → ClassId) (ad : Nat → Nat → Nat) (i : Nat) : ax_cell Ca ad kb_M 23 i = .inl (Ca 2, (64, .inl (fun _ => 0))) := rfl
theorem kb_c24 (Ca : Nat → ClassId) (ad : Nat → Nat → Nat) (i : Nat) : ax_cell Ca ad kb_M 24 i = .inl (Ca 1, (8, .inl (fun _ => 0))) := rfl
theorem kb_c25 (Ca : Nat → ClassId) (ad : Nat → Nat → Nat) (i : Nat) : ax_cell Ca ad kb_M 25 i = .inl (Ca 1, (64, .inl (fun _ => 0))) := rfl
theorem kb_c26 (Ca : Nat → ClassId) (ad : Nat → Nat → Nat) (i : Nat) : ax_cell Ca ad kb_M 26 i = .inl (Ca 1, (16, .inl (fun _ => 0))) := rfl
theorem kb_c27 (Ca : Nat → ClassId) (ad : Nat → Nat → Nat) (i : Nat) : ax_cell Ca ad kb_M 27 i = .inl (Ca 1, (16, .inl (fun _ => 0))) := rfl
theorem kb_c28 (Ca : Nat → ClassId) (ad : Nat → Nat → Nat) (i : Nat) : ax_cell Ca ad kb_M 28 i = .inl (Ca 1, (16, .inl (fun _ => 0))) := rfl
theorem kb_c29 (Ca : Nat → ClassId) (ad : Nat → Nat → Nat) (i : Nat) : ax_cell Ca ad kb_M 29 i = .inl (Ca 1, (16, .inl (fun _ => 0))) := rfl
theorem kb_c30 (Ca : Nat → ClassId) (ad : Nat → Nat → Nat) (i : Nat) : ax_cell Ca ad kb_M 30 i = .inl (Ca 1, (250, .inl (fun _ => 0))) := rfl
theorem kb_c31 (Ca : Nat → ClassId) (ad : Nat → Nat → Nat) (i : Nat) : ax_cell Ca ad kb_M 31 i = .inl (Ca 1, (8, .inl (fun j => if j < 8 then (-1 : Int32) else 0))) := rfl
theorem kb_c32 (Ca : Nat → ClassId) (ad : Nat → Nat → Nat) (i : Nat) : ax_cell Ca ad kb_M 32 i = .inl (Ca 1, (8, .inl (fun _ => 0))) := rfl
theorem kb_c33 (Ca : Nat → ClassId) (ad : Nat → Nat → Nat) (i : Nat) : ax_cell Ca ad kb_M 33 i = .inl (Ca 3, (320, .inr (.inl (fun _ => 0)))) := rfl
theorem kb_c34 (Ca : Nat → ClassId) (ad : Nat → Nat → Nat) (i : Nat) : ax_cell Ca ad kb_M 34 i = .inl (Ca 1, (7, .inl (fun _ => 0))) := rfl
theorem kb_c35 (Ca : Nat → ClassId) (ad : Nat → Nat → Nat) (i : Nat) : ax_cell Ca ad kb_M 35 i = .inl (Ca 1, (203, .inl (fun _ => 0))) := rfl
theorem kb_c36 (Ca : Nat → ClassId) (ad : Nat → Nat → Nat) (i : Nat) : ax_cell Ca ad kb_M 36 i = .inl (Ca 1, (203, .inl (fun _ => 0))) := rfl
theorem kb_c37 (Ca : Nat → ClassId) (ad : Nat → Nat → Nat) (i : Nat) : ax_cell Ca ad kb_M 37 i = .inl (Ca 1, (64, .inl (fun _ => 0))) := rfl
theorem kb_c38 (Ca : Nat → ClassId) (ad : Nat → Nat → Nat) (i : Nat) : ax_cell Ca ad kb_M 38 i = .inl (Ca 1, (8, .inl (fun _ => 0))) := rfl
theorem kb_c39 (Ca : Nat → ClassId) (ad : Nat → Nat → Nat) (i : Nat) : ax_cell Ca ad kb_M 39 i = .inl (Ca 1, (3, .inl (fun _ => 0))) := rfl
set_option maxHeartbeats 8000000 in
set_option maxRecDepth 100000 in
theorem kb_cells {D : va_G} {Ca : Nat → ClassId} {a b : Nat} {f g : Nat → Nat} {F : Nat → Nat → Nat} {u v : Nat → Nat} {z : Nat → Nat → Nat} {H : Heap} (hP : va_P D vwCl (kb_LL Ca a b f g F u v) H) : ∀ q ∈ kb_ids, va_at D vwCl ((kb_ad a b f g F u v z) q.1 q.2, ax_cell Ca (kb_ad a b f g F u v z) kb_M q.1 q.2) H := by
  unfold kb_LL at hP
  unfold kb_ids
  have h0 := kb_hd hP
  have hP := kb_tl hP
  have h1 := kb_hd hP
  have hP := kb_tl hP
  have h2 := kb_hd hP
  have hP := kb_tl hP
  have h3 := kb_hd hP
  have hP := kb_tl hP
  have h4 := kb_hd hP
  have hP := kb_tl hP
  have h5 := kb_hd hP
  have hP := kb_tl hP
  have h6 := kb_hd hP
  have hP := kb_tl hP
  have h7 := kb_hd hP
  have hP := kb_tl hP
  have h8 := kb_hd hP
  have hP := kb_tl hP
  have h9 := kb_hd hP
  have hP := kb_tl hP
  have h10 := kb_hd hP
  have hP := kb_tl hP
  have h11 := kb_hd hP
  have hP := kb_tl hP
  have h12 := kb_hd hP
  have hP := kb_tl hP
  have h13 := kb_hd hP
  have hP := kb_tl hP
  have h14 := kb_hd hP
  have hP := kb_tl hP
  have h15 := kb_hd hP
  have hP := kb_tl hP
  have h16 := kb_hd hP
  have hP := kb_tl hP
  have h17 := kb_hd hP
  have hP := kb_tl hP
  have h18 := kb_hd hP
  have hP := kb_tl hP
  have h19 := kb_hd hP
  have hP := kb_tl hP
  have h20 := kb_hd hP
  have hP := kb_tl hP
  have h21 := kb_hd hP
  have hP := kb_tl hP
  have h22 := kb_hd hP
  have hP := kb_tl hP
  have h23 := kb_hd hP
  have hP := kb_tl hP
  have h24 := kb_hd hP
  have hP := kb_tl hP
  have h25 := kb_hd hP
  have hP := kb_tl hP
  have h26 := kb_hd hP
  have hP := kb_tl hP
  have h27 := kb_hd hP
  have hP := kb_tl hP
  have h28 := kb_hd hP
  have hP := kb_tl hP
  have h29 := kb_hd hP
  have hP := kb_tl hP
  have h30 := kb_hd hP
  have hP := kb_tl hP
  have h31 := kb_hd hP
  have hP := kb_tl hP
  have h32 := kb_hd hP
  have hP := kb_tl hP
  have h33 := kb_hd hP
  have hP := kb_tl hP
  have h34 := kb_hd hP
  have hP := kb_tl hP
  have h35 := kb_hd hP
  have hP := kb_tl hP
  have h36 := kb_hd hP
  have hP := kb_tl hP
  have h37 := kb_hd hP
  have hP := kb_tl hP
  have h38 := kb_hd hP
  have hP := kb_tl hP
  have h39 := kb_hd hP
  have hP := kb_tl hP
  have h40 := kb_hd hP
  have hP := kb_tl hP
  have h41 := kb_hd hP
  have hP := kb_tl hP
  have h42 := kb_hd hP
  have hP := kb_tl hP
  have h43 := kb_hd hP
  have hP := kb_tl hP
  have h44 := kb_hd hP
  have hP := kb_tl hP
  have h45 := kb_hd hP
  have hP := kb_tl hP
  have h46 := kb_hd hP
  have hP := kb_tl hP
  have h47 := kb_hd hP
  have hP := kb_tl hP
  have h48 := kb_hd hP
  have hP := kb_tl hP
  have h49 := kb_hd hP
  have hP := kb_tl hP
  have h50 := kb_hd hP
  have hP := kb_tl hP
  have h51 := kb_hd hP
  have hP := kb_tl hP
  have h52 := kb_hd hP
  have hP := kb_tl hP
  have h53 := kb_hd hP
  have hP := kb_tl hP
  have h54 := kb_hd hP
  have hP := kb_tl hP
  have h55 := kb_hd hP
  have hP := kb_tl hP
  have h56 := kb_hd hP
  have hP := kb_tl hP
  have h57 := kb_hd hP
  have hP := kb_tl hP
  have h58 := kb_hd hP
  have hP := kb_tl hP
  have h59 := kb_hd hP
  have hP := kb_tl hP
  have h60 := kb_hd hP
  have hP := kb_tl hP
  have h61 := kb_hd hP
  have hP := kb_tl hP
  have h62 := kb_hd hP
  have hP := kb_tl hP
  have h63 := kb_hd hP
  have hP := kb_tl hP
  have h64 := kb_hd hP
  have hP := kb_tl hP
  have h65 := kb_hd hP
  have hP := kb_tl hP
  have h66 := kb_hd hP
  have hP := kb_tl hP
  have h67 := kb_hd hP
  have hP := kb_tl hP
  have h68 := kb_hd hP
  have hP := kb_tl hP
  have h69 := kb_hd hP
  have hP := kb_tl hP
  have h70 := kb_hd hP
  have hP := kb_tl hP
  have h71 := kb_hd hP
  have hP := kb_tl hP
  have h72 := kb_hd hP
  have hP := kb_tl hP
  have h73 := kb_hd hP
  have hP := kb_tl hP
  have h74 := kb_hd hP
  have hP := kb_tl hP
  have h75 := kb_hd hP
  have hP := kb_tl hP
  have h76 := kb_hd hP
  have hP := kb_tl hP
  have h77 := kb_hd hP
  have hP := kb_tl hP
  have h78 := kb_hd hP
  have hP := kb_tl hP
  have h79 := kb_hd hP
  have hP := kb_tl hP
  have h80 := kb_hd hP
  have hP := kb_tl hP
  have h81 := kb_hd hP
  have hP := kb_tl hP
  have h82 := kb_hd hP
  have hP := kb_tl hP
  have h83 := kb_hd hP
  have hP := kb_tl hP
  have h84 := kb_hd hP
  have hP := kb_tl hP
  have h85 := kb_hd hP
  have hP := kb_tl hP
  have h86 := kb_hd hP
  have hP := kb_tl hP
  have h87 := kb_hd hP
  have hP := kb_tl hP
  have h88 := kb_hd hP
  have hP := kb_tl hP
  have h89 := kb_hd hP
  have hP := kb_tl hP
  have h90 := kb_hd hP
  have hP := kb_tl hP
  have h91 := kb_hd hP
  have hP := kb_tl hP
  have h92 := kb_hd hP
  have hP := kb_tl hP
  have h93 := kb_hd hP
  have hP := kb_tl hP
  have h94 := kb_hd hP
  have hP := kb_tl hP
  have h95 := kb_hd hP
  have hP := kb_tl hP
  have h96 := kb_hd hP
  have hP := kb_tl hP
  have h97 := kb_hd hP
  have hP := kb_tl hP
  have h98 := kb_hd hP
  have hP := kb_tl hP
  have h99 := kb_hd hP
  have hP := kb_tl hP
  have h100 := kb_hd hP
  have hP := kb_tl hP
  have h101 := kb_hd hP
  have hP := kb_tl hP
  have h102 := kb_hd hP
  have hP := kb_tl hP
  have h103 := kb_hd hP
  have hP := kb_tl hP
  have h104 := kb_hd hP
  have hP := kb_tl hP
  have h105 := kb_hd hP
  have hP := kb_tl hP
  have h106 := kb_hd hP
  have hP := kb_tl hP
  have h107 := kb_hd hP
  have hP := kb_tl hP
  have h108 := kb_hd hP
  have hP := kb_tl hP
  have h109 := kb_hd hP
  have hP := kb_tl hP
  have h110 := kb_hd hP
  have hP := kb_tl hP
  refine List.forall_mem_cons.mpr ⟨by rw [kb_c0]; exact h0, ?_⟩
  refine List.forall_mem_cons.mpr ⟨by rw [kb_c1]; exact h2, ?_⟩
  refine List.forall_mem_cons.mpr ⟨by rw [kb_c1]; exact h23, ?_⟩
  refine List.forall_mem_cons.mpr ⟨by rw [kb_c1]; exact h44, ?_⟩
  refine List.forall_mem_cons.mpr ⟨by rw [kb_c2]; exact h3, ?_⟩
  refine List.forall_mem_cons.mpr ⟨by rw [kb_c2]; exact h24, ?_⟩
  refine List.forall_mem_cons.mpr ⟨by rw [kb_c2]; exact h45, ?_⟩
  refine List.forall_mem_cons.mpr ⟨by rw [kb_c3]; exact h4, ?_⟩
  refine List.forall_mem_cons.mpr ⟨by rw [kb_c3]; exact h25, ?_⟩
  refine List.forall_mem_cons.mpr ⟨by rw [kb_c3]; exact h46, ?_⟩
  refine List.forall_mem_cons.mpr ⟨by rw [kb_c4]; exact h5, ?_⟩
  refine List.forall_mem_cons.mpr ⟨by rw [kb_c4]; exact h26, ?_⟩
  refine List.forall_mem_cons.mpr ⟨by rw [kb_c4]; exact h47, ?_⟩
  refine List.forall_mem_cons.mpr ⟨kb_row (f := fun j => ((List.range 16).map (F 0))[j]?) (fun j hj => by have hj : j < 16 := hj; rw [List.getElem?_map, List.getElem?_range hj]; show some (F 0 j) = some (F ((16 * 0 + j) / 16) ((16 * 0 + j) % 16)); rw [show (16 * 0 + j) / 16 = 0 by omega, show (16 * 0 + j) % 16 = j by omega]) h6, ?_⟩
  refine List.forall_mem_cons.mpr ⟨kb_row (f := fun j => ((List.range 16).map (F 1))[j]?) (fun j hj => by have hj : j < 16 := hj; rw [List.getElem?_map, List.getElem?_range hj]; show some (F 1 j) = some (F ((16 * 1 + j) / 16) ((16 * 1 + j) % 16)); rw [show (16 * 1 + j) / 16 = 1 by omega, show (16 * 1 + j) % 16 = j by omega]) h27, ?_⟩
  refine List.forall_mem_cons.mpr ⟨kb_row (f := fun j => ((List.range 16).map (F 2))[j]?) (fun j hj => by have hj : j < 16 := hj; rw [List.getElem?_map, List.getElem?_range hj]; show some (F 2 j) = some (F ((16 * 2 + j) / 16) ((16 * 2 + j) % 16)); rw [show (16 * 2 + j) / 16 = 2 by omega, show (16 * 2 + j) % 16 = j by omega]) h48, ?_⟩
  refine List.forall_mem_cons.mpr ⟨by rw [kb_c6]; exact h7, ?_⟩
  refine List.forall_mem_cons.mpr ⟨by rw [kb_c6]; exact h8, ?_⟩
  refine List.forall_mem_cons.mpr ⟨by rw [kb_c6]; exact h9, ?_⟩
  refine List.forall_mem_cons.mpr ⟨by rw [kb_c6]; exact h10, ?_⟩
  refine List.forall_mem_cons.mpr ⟨by rw [kb_c6]; exact h11, ?_⟩
  refine List.forall_mem_cons.mpr ⟨by rw [kb_c6]; exact h12, ?_⟩
  refine List.forall_mem_cons.mpr ⟨by rw [kb_c6]; exact h13, ?_⟩
  refine List.forall_mem_cons.mpr ⟨by rw [kb_c6]; exact h14, ?_⟩
  refine List.forall_mem_cons.mpr ⟨by rw [kb_c6]; exact h15, ?_⟩
  refine List.forall_mem_cons.mpr ⟨by rw [kb_c6]; exact h16, ?_⟩
  refine List.forall_mem_cons.mpr ⟨by rw [kb_c6]; exact h17, ?_⟩
  refine List.forall_mem_cons.mpr ⟨by rw [kb_c6]; exact h18, ?_⟩
  refine List.forall_mem_cons.mpr ⟨by rw [kb_c6]; exact h19, ?_⟩
  refine List.forall_mem_cons.mpr ⟨by rw [kb_c6]; exact h20, ?_⟩
  refine List.forall_mem_cons.mpr ⟨by rw [kb_c6]; exact h21, ?_⟩
  refine List.forall_mem_cons.mpr ⟨by rw [kb_c6]; exact h22, ?_⟩
  refine List.forall_mem_cons.mpr ⟨by rw [kb_c6]; exact h28, ?_⟩
  refine List.forall_mem_cons.mpr ⟨by rw [kb_c6]; exact h29, ?_⟩
  refine List.forall_mem_cons.mpr ⟨by rw [kb_c6]; exact h30, ?_⟩
  refine List.forall_mem_cons.mpr ⟨by rw [kb_c6]; exact h31, ?_⟩
  refine List.forall_mem_cons.mpr ⟨by rw [kb_c6]; exact h32, ?_⟩
  refine List.forall_mem_cons.mpr ⟨by rw [kb_c6]; exact h33, ?_⟩
  refine List.forall_mem_cons.mpr ⟨by rw [kb_c6]; exact h34, ?_⟩
  refine List.forall_mem_cons.mpr ⟨by rw [kb_c6]; exact h35, ?_⟩
  refine List.forall_mem_cons.mpr ⟨by rw [kb_c6]; exact h36, ?_⟩
  refine List.forall_mem_cons.mpr ⟨by rw [kb_c6]; exact h37, ?_⟩
  refine List.forall_mem_cons.mpr ⟨by rw [kb_c6]; exact h38, ?_⟩
  refine List.forall_mem_cons.mpr ⟨by rw [kb_c6]; exact h39, ?_⟩
  refine List.forall_mem_cons.mpr ⟨by rw [kb_c6]; exact h40, ?_⟩
  refine List.forall_mem_cons.mpr ⟨by rw [kb_c6]; exact h41, ?_⟩
  refine List.forall_mem_cons.mpr ⟨by rw [kb_c6]; exact h42, ?_⟩
  refine List.forall_mem_cons.mpr ⟨by rw [kb_c6]; exact h43, ?_⟩
  refine List.forall_mem_cons.mpr ⟨by rw [kb_c6]; exact h49, ?_⟩
  refine List.forall_mem_cons.mpr ⟨by rw [kb_c6]; exact h50, ?_⟩
  refine List.forall_mem_cons.mpr ⟨by rw [kb_c6]; exact h51, ?_⟩
  refine List.forall_mem_cons.mpr ⟨by rw [kb_c6]; exact h52, ?_⟩
  refine List.forall_mem_cons.mpr ⟨by rw [kb_c6]; exact h53, ?_⟩
  refine List.forall_mem_cons.mpr ⟨by rw [kb_c6]; exact h54, ?_⟩
  refine List.forall_mem_cons.mpr ⟨by rw [kb_c6]; exact h55, ?_⟩
  refine List.forall_mem_cons.mpr ⟨by rw [kb_c6]; exact h56, ?_⟩
  refine List.forall_mem_cons.mpr ⟨by rw [kb_c6]; exact h57, ?_⟩
  refine List.forall_mem_cons.mpr ⟨by rw [kb_c6]; exact h58, ?_⟩
  refine List.forall_mem_cons.mpr ⟨by rw [kb_c6]; exact h59, ?_⟩
  refine List.forall_mem_cons.mpr ⟨by rw [kb_c6]; exact h60, ?_⟩
  refine List.forall_mem_cons.mpr ⟨by rw [kb_c6]; exact h61, ?_⟩
  refine List.forall_mem_cons.mpr ⟨by rw [kb_c6]; exact h62, ?_⟩
  refine List.forall_mem_cons.mpr ⟨by rw [kb_c6]; exact h63, ?_⟩
  refine List.forall_mem_cons.mpr ⟨by rw [kb_c6]; exact h64, ?_⟩
  refine List.forall_mem_cons.mpr ⟨kb_row (f := fun j => (((List.range 8).map (fun s => (u s, v s)))[j]?).map Prod.fst) (fun j hj => by have hj : j < 8 := hj; rw [List.getElem?_map, List.getElem?_range hj]; show some (u j) = some (u (8 * 0 + j)); rw [Nat.mul_zero, Nat.zero_add]) h1, ?_⟩
  refine List.forall_mem_cons.mpr ⟨by rw [kb_c8]; exact h77, ?_⟩
  refine List.forall_mem_cons.mpr ⟨by rw [kb_c8]; exact h79, ?_⟩
  refine List.forall_mem_cons.mpr ⟨by rw [kb_c8]; exact h81, ?_⟩
  refine List.forall_mem_cons.mpr ⟨by rw [kb_c8]; exact h83, ?_⟩
  refine List.forall_mem_cons.mpr ⟨by rw [kb_c8]; exact h85, ?_⟩
  refine List.forall_mem_cons.mpr ⟨by rw [kb_c8]; exact h87, ?_⟩
  refine List.forall_mem_cons.mpr ⟨by rw [kb_c8]; exact h89, ?_⟩
  refine List.forall_mem_cons.mpr ⟨by rw [kb_c8]; exact h91, ?_⟩
  refine List.forall_mem_cons.mpr ⟨by rw [kb_c9]; exact h78, ?_⟩
  refine List.forall_mem_cons.mpr ⟨by rw [kb_c9]; exact h80, ?_⟩
  refine List.forall_mem_cons.mpr ⟨by rw [kb_c9]; exact h82, ?_⟩
  refine List.forall_mem_cons.mpr ⟨by rw [kb_c9]; exact h84, ?_⟩
  refine List.forall_mem_cons.mpr ⟨by rw [kb_c9]; exact h86, ?_⟩
  refine List.forall_mem_cons.mpr ⟨by rw [kb_c9]; exact h88, ?_⟩
  refine List.forall_mem_cons.mpr ⟨by rw [kb_c9]; exact h90, ?_⟩
  refine List.forall_mem_cons.mpr ⟨by rw [kb_c9]; exact h92, ?_⟩
  refine List.forall_mem_cons.mpr ⟨by rw [kb_c10]; exact h66, ?_⟩
  refine List.forall_mem_cons.mpr ⟨by rw [kb_c11]; exact h67, ?_⟩
  refine List.forall_mem_cons.mpr ⟨by rw [kb_c12]; exact h65, ?_⟩
  refine List.forall_mem_cons.mpr ⟨by rw [kb_c13]; exact h68, ?_⟩
  refine List.forall_mem_cons.mpr ⟨by rw [kb_c14]; exact h69, ?_⟩
  refine List.forall_mem_cons.mpr ⟨by rw [kb_c15]; exact h70, ?_⟩
  refine List.forall_mem_cons.mpr ⟨by rw [kb_c16]; exact h71, ?_⟩
  refine List.forall_mem_cons.mpr ⟨by rw [kb_c17]; exact h72, ?_⟩
  refine List.forall_mem_cons.mpr ⟨by rw [kb_c18]; exact h73, ?_⟩
  refine List.forall_mem_cons.mpr ⟨by rw [kb_c19]; exact h74, ?_⟩
  refine List.forall_mem_cons.mpr ⟨by rw [kb_c20]; exact h75, ?_⟩
  refine List.forall_mem_cons.mpr ⟨by rw [kb_c21]; exact h76, ?_⟩
  refine List.forall_mem_cons.mpr ⟨by rw [kb_c22]; exact h93, ?_⟩
  refine List.forall_mem_cons.mpr ⟨by rw [kb_c23]; exact h95, ?_⟩
  refine List.forall_mem_cons.mpr ⟨by rw [kb_c24]; exact h96, ?_⟩
  refine List.forall_mem_cons.mpr ⟨by rw [kb_c25]; exact h97, ?_⟩
  refine List.forall_mem_cons.mpr ⟨by rw [kb_c26]; exact h98, ?_⟩
  refine List.forall_mem_cons.mpr ⟨by rw [kb_c27]; exact h99, ?_⟩
  refine List.forall_mem_cons.mpr ⟨by rw [kb_c28]; exact h100, ?_⟩
  refine List.forall_mem_cons.mpr ⟨by rw [kb_c29]; exact h101, ?_⟩
  refine List.forall_mem_cons.mpr ⟨by rw [kb_c30]; exact h102, ?_⟩
  refine List.forall_mem_cons.mpr ⟨by rw [kb_c31]; exact h94, ?_⟩
  refine List.forall_mem_cons.mpr ⟨by rw [kb_c32]; exact h103, ?_⟩
  refine List.forall_mem_cons.mpr ⟨by rw [kb_c33]; exact h104, ?_⟩
  refine List.forall_mem_cons.mpr ⟨by rw [kb_c34]; exact h105, ?_⟩
  refine List.forall_mem_cons.mpr ⟨by rw [kb_c35]; exact h106, ?_⟩
  refine List.forall_mem_cons.mpr ⟨by rw [kb_c36]; exact h107, ?_⟩
  refine List.forall_mem_cons.mpr ⟨by rw [kb_c37]; exact h108, ?_⟩
  refine List.forall_mem_cons.mpr ⟨by rw [kb_c38]; exact h109, ?_⟩
  refine List.forall_mem_cons.mpr ⟨by rw [kb_c39]; exact h110, ?_⟩
  exact fun _ h => absurd h List.not_mem_nil
theorem kb_world {D : va_G} {Ca : Nat → ClassId} {A : Nat → Prop} {a b : Nat} {f g : Nat → Nat} {F : Nat → Nat → Nat} {u v : Nat → Nat} {H : Heap} (z : Nat → Nat → Nat) (hP : va_P D vwCl (kb_WW Ca a b f g F u v) H) (hD : va_D A (kb_WW Ca a b f g F u v)) : va_P D vwCl (ax_ws Ca (kb_ad a b f g F u v z) kb_M) H ∧ ax_inj (kb_ad a b f g F u v z) ∧ ∀ q, ax_A (kb_ad a b f g F u v z) q → A q := by
  rw [kb_WL] at hP hD
  have hc := kb_cells (z := z) hP
  have hm : ∀ {k i : Nat}, k < 40 → i < ax_cnt k → (k, i) ∈ kb_ids := fun hk hi => by
    obtain ⟨p, hp⟩ := ax_ids_mem hk hi
    rw [← kb_ids_eq]
    exact List.mem_of_getElem? hp
  have hp : ∀ q ∈ kb_ids, ∃ (p : Nat) (e : va_E), kb_ord[p]? = some q ∧ (kb_LL Ca a b f g F u v)[p]? = some ((kb_ad a b f g F u v z) q.1 q.2, e) := fun q hq => by
    obtain ⟨p, h1⟩ := List.getElem?_of_mem (kb_ord_in q hq)
    have h2 : ((kb_LL Ca a b f g F u v).map Prod.fst)[p]? = (kb_ord.map (fun q => (kb_ad a b f g F u v z) q.1 q.2))[p]? := by rw [kb_LA Ca a b f g F u v z]
    rw [List.getElem?_map, List.getElem?_map, h1] at h2
    obtain ⟨x, h3, h4⟩ := Option.map_eq_some_iff.mp h2
    have h4 : x.1 = (kb_ad a b f g F u v z) q.1 q.2 := h4
    exact ⟨p, x.2, h1, by rw [h3, ← h4]⟩
  refine ⟨fun k q hq => ?_, fun k i k2 i2 hk hi hk2 hi2 e => ?_, fun q hq => ?_⟩
  · unfold ax_ws at hq
    rw [List.getElem?_map, Option.map_eq_some_iff] at hq
    obtain ⟨r, hr, rfl⟩ := hq
    exact hc r (by rw [← kb_ids_eq]; exact List.mem_of_getElem? hr)
  · obtain ⟨p1, e1, g1, h1⟩ := hp _ (hm hk hi)
    obtain ⟨p2, e2, g2, h2⟩ := hp _ (hm hk2 hi2)
    obtain rfl := hD.1 _ _ _ _ h1 h2 e
    have := Option.some.inj (g1.symm.trans g2)
    exact ⟨congrArg Prod.fst this, congrArg Prod.snd this⟩
  · obtain ⟨k, i, hk, hi, rfl⟩ := hq
    obtain ⟨p1, e1, g1, h1⟩ := hp _ (hm hk hi)
    exact hD.2 _ _ h1
