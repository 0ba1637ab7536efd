/-! where the law's cells lie, and what they hold at first -/
def ix21 (k : Nat) : Nat := if k ≤ 1 then k else if k ≤ 14 then k - 3 else if k = 18 then 12 else if k ≤ 21 then k - 7 else k - 10
def offL (i : Idn) : Nat :=
  if i.1 = 0 then 0 else if i.1 = 1 then 1 else if i.1 = 2 then 2 else if i.1 = 3 then 3 else if i.1 = 4 then 4 else
  if i.1 = 5 then 5 + 2 * i.2 else if i.1 = 6 then 6 + 2 * i.2 else
  if i.1 = 7 then (if i.2 = 0 then 16 else 65) else if i.1 = 8 then (if i.2 = 0 then 15 else 66) else
  if i.1 = 9 then (if i.2 = 0 then 17 else 67) else if i.1 = 10 then (if i.2 = 0 then 18 else 68) else
  if i.1 = 11 then (if i.2 < 5 then 19 + 9 * i.2 else 69 + 9 * (i.2 - 5)) else
  if i.1 = 12 then (if i.2 < 5 then 20 + 9 * i.2 else 70 + 9 * (i.2 - 5)) else
  if i.1 = 13 then (if i.2 < 5 then 21 + 9 * i.2 else 71 + 9 * (i.2 - 5)) else
  if i.1 = 14 then (if i.2 < 30 then 22 + 9 * (i.2 / 6) + i.2 % 6 else 72 + 9 * ((i.2 - 30) / 6) + i.2 % 6) else
  if i.1 = 15 then 64 else if i.1 = 20 then 114 else if i.1 = 21 then 115 + ix21 i.2 else 136
def adL (n0 b : Nat) (i : Idn) : Nat := if i.1 = 99 then b else n0 + offL i
theorem offL_inj : ∀ i ∈ ids, ∀ j ∈ ids, offL i = offL j → i = j := by decide +kernel
theorem ids_99 : ∀ i ∈ ids, ¬ i.1 = 99 := by decide +kernel
theorem adL_at {n0 b : Nat} {i : Idn} (h : i ∈ ids) : adL n0 b i = n0 + offL i := if_neg (ids_99 i h)
theorem adL_ok (n0 b : Nat) : AdOK (adL n0 b) := by
  intro i hi j hj h
  rw [adL_at hi, adL_at hj] at h
  exact offL_inj i hi j hj (by omega)
def S0 : ST := (fun _ _ _ => 0, fun _ _ _ => 0, fun t _ _ => if t = 2 then -1 else 0, fun _ _ _ => none)
theorem INV_0 : INV S0 := by
  have hi : ∀ t k y, iv S0 t k y = 0 := fun _ _ _ => rfl
  have hj : ∀ t k y, jv S0 t k y = 0 := fun _ _ _ => rfl
  have ha : ∀ y j, ai S0 21 y j = 0 := fun _ _ => rfl
  refine ⟨⟨⟨⟨fun p hp => ?_, fun c hc => ⟨?_, ?_⟩, fun r hr => ⟨?_, ?_⟩⟩, fun d hd => ?_, ?_⟩, ⟨fun k j => ?_, fun k hk => ?_⟩, fun k hk h => absurd (ha 25 k) h, fun k hk => by rw [hi] at hk; exact absurd hk (Nat.not_lt_zero k), fun h => by rw [hi] at h; exact absurd h (by decide)⟩, ⟨fun d hd => ⟨fun h => by rw [ha] at h; exact absurd h (by decide), fun _ => rfl⟩, ⟨rfl, rfl, rfl⟩, fun k hk => ⟨⟨rfl, rfl, rfl, rfl⟩, fun j hj => rfl⟩⟩, ⟨rfl, by rw [hi]; decide, by rw [hi]; decide⟩, fun h => by rw [hi] at h; exact absurd h (by decide)⟩
  · rw [hi, hi, hi, hj, hj]; decide
  · unfold GN; rw [hi, hi, hi, hi, hj]; decide
  · exact ⟨by rw [hi]; decide, fun j h => by rw [hi] at h; omega⟩
  · unfold GN; rw [hi, hi, hi, hi, hj]; decide
  · exact ⟨by rw [hi]; decide, fun j h => by rw [hi] at h; omega⟩
  · show (-1 : Int) ≤ -1 ∧ (-1 : Int) ≤ 255; decide
  · refine ⟨by rw [hi]; decide, by rw [hi]; decide, by rw [hi]; decide, fun x hx => ⟨by rw [hi]; decide, by rw [hi]; decide, Or.inl rfl, by rw [hi]; decide, fun j hj => ?_⟩⟩
    show (0 : Int) ≤ 0 ∧ (0 : Int) < 16; decide
  · rw [ha]
    refine ⟨by unfold loA; split <;> (try split) <;> decide, ?_⟩
    unfold hiA
    split <;> decide
  · rw [hi]
    refine ⟨by unfold loI; split <;> (try split) <;> decide, ?_⟩
    unfold hiI
    split <;> decide
theorem toq {D : va_G} {cy : Nat → ClassId} {ad : Idn → Nat} {a t N : Nat} {g g' : Nat → Option Idn} {H : Heap} (h : CA D cy a (.inr (.inr (.inl (t, N, g')))) H) (e : ∀ j, j < N → (g j).map ad = (g' j).map Prod.snd) : va_at D vwCl (a, te cy ad (.inr (.inr (.inl (t, N, g))))) H := by
  have h : H[a]? = some (vp_cell _ _) := h
  show H[a]? = some (vp_cell _ _)
  rw [h, vp_cell_q, vp_cell_q]
  exact congrArg some (arrV_cg (fun j hj => by rw [e j hj]))
def HP (D : va_G) (cy : Nat → ClassId) (n0 : Nat) (H : Heap) : Prop := CA D cy (n0) (.inl (8, [av (n0 + 1), av (n0 + 3), av (n0 + 15), av (n0 + 64)])) H ∧ CA D cy (n0 + 1) (.inl (5, [av (n0 + 2)])) H ∧ CA D cy (n0 + 2) (.inr (.inl (0, 40, fun _ => -1))) H ∧ QS D cy (n0 + 3) (n0 + 4) H ∧ PL D cy (n0 + 15) (n0 + 17) (n0 + 16) H ∧ CA D cy (n0 + 16) (.inl (6, [vi 0])) H ∧ RNs D cy (n0 + 64) (n0 + 65) H ∧ CA D cy (n0 + 114) (.inl (9, [av (n0 + 115), av (n0 + 116), vi 0, vi 0, vi 0, av (n0 + 117), av (n0 + 118), av (n0 + 119), av (n0 + 120), av (n0 + 121), av (n0 + 122), av (n0 + 123), av (n0 + 124), av (n0 + 125), av (n0 + 126), vi 0, vi 0, vi 0, av (n0 + 127), vi 0, av (n0 + 128), av (n0 + 129), vi 0, vi 0, vi 0, av (n0 + 130), av (n0 + 131), av (n0 + 132), av (n0 + 133), av (n0 + 134), av (n0 + 135), vi 0, vi 0, vi 0, vi 0])) H ∧ (∀ j, j < 21 → CA D cy (n0 + 115 + j) (marr j) H) ∧ CA D cy (n0 + 136) (.inr (.inr (.inr (6, 1, fun _ => 0)))) H
theorem clause_at {D : va_G} {cy : Nat → ClassId} {n0 b B t x : Nat} {r : Int} {H : Heap} (h : CL D cy B t r H) (hx : x < 10) (hr : r = ((x % 5 : Nat) : Int)) (e11 : adL n0 b (11, x) = B) (e12 : adL n0 b (12, x) = B + 1) (e13 : adL n0 b (13, x) = B + 2) (e14 : ∀ j, j < 6 → adL n0 b (14, 6 * x + j) = B + 3 + j) (e7 : ∀ j, j < 6 → adL n0 b (7, (6 * x + j) / 30) = t) :
    va_at D vwCl (adL n0 b (11, x), te cy (adL n0 b) (hp S0 (11, x))) H ∧ va_at D vwCl (adL n0 b (12, x), te cy (adL n0 b) (hp S0 (12, x))) H ∧ va_at D vwCl (adL n0 b (13, x), te cy (adL n0 b) (hp S0 (13, x))) H ∧ ∀ j, j < 6 → va_at D vwCl (adL n0 b (14, 6 * x + j), te cy (adL n0 b) (hp S0 (14, 6 * x + j))) H := by
  subst hr
  obtain ⟨h1, h2, h3, h4⟩ := h
  refine ⟨?_, ?_, ?_, fun j hj => ?_⟩
  · show va_at D vwCl (adL n0 b (11, x), .inr (1, [.ref (adL n0 b (12, x)), tv Prod.snd (vi 0), tv Prod.snd (vi 0), tv Prod.snd (vi 0), tv Prod.snd (vl 0), tv Prod.snd (vi ((x % 5 : Nat) : Int)), tv Prod.snd (vi 0), tv Prod.snd (vi 0), .ref (adL n0 b (13, x))])) H
    rw [e11, e12, e13]
    exact h1
  · rw [e12]; exact h2
  · rw [e13]
    refine toq h3 (fun j hj => ?_)
    show some (adL n0 b (14, 6 * x + j)) = some (B + 3 + j)
    rw [e14 j hj]
  · show va_at D vwCl (adL n0 b (14, 6 * x + j), .inr (2, [tv Prod.snd (vi 0), tv Prod.snd (vi 0), tv Prod.snd (vi 0), .ref (adL n0 b (7, (6 * x + j) / 30)), tv Prod.snd (vl 0), tv Prod.snd (vl 0)])) H
    rw [e14 j hj, e7 j hj]
    exact h4 j hj
theorem adL_cl {n0 b x B t : Nat} (hx : (x < 5 ∧ B = n0 + 19 + 9 * x ∧ t = n0 + 16) ∨ (5 ≤ x ∧ x < 10 ∧ B = n0 + 69 + 9 * (x - 5) ∧ t = n0 + 65)) : adL n0 b (11, x) = B ∧ adL n0 b (12, x) = B + 1 ∧ adL n0 b (13, x) = B + 2 ∧ (∀ j, j < 6 → adL n0 b (14, 6 * x + j) = B + 3 + j) ∧ ∀ j, j < 6 → adL n0 b (7, (6 * x + j) / 30) = t := by
  rcases hx with ⟨h1, rfl, rfl⟩ | ⟨h1, h2, rfl, rfl⟩
  · refine ⟨?_, ?_, ?_, fun j hj => ?_, fun j hj => ?_⟩
    · show n0 + (if x < 5 then 19 + 9 * x else 69 + 9 * (x - 5)) = _; rw [if_pos h1]; omega
    · show n0 + (if x < 5 then 20 + 9 * x else 70 + 9 * (x - 5)) = _; rw [if_pos h1]; omega
    · show n0 + (if x < 5 then 21 + 9 * x else 71 + 9 * (x - 5)) = _; rw [if_pos h1]; omega
    · show n0 + (if 6 * x + j < 30 then 22 + 9 * ((6 * x + j) / 6) + (6 * x + j) % 6 else 72 + 9 * ((6 * x + j - 30) / 6) + (6 * x + j) % 6) = _; rw [if_pos (by omega)]; omega
    · show n0 + (if (6 * x + j) / 30 = 0 then 16 else 65) = _; rw [if_pos (by omega)]
  · refine ⟨?_, ?_, ?_, fun j hj => ?_, fun j hj => ?_⟩
    · show n0 + (if x < 5 then 19 + 9 * x else 69 + 9 * (x - 5)) = _; rw [if_neg (by omega)]; omega
    · show n0 + (if x < 5 then 20 + 9 * x else 70 + 9 * (x - 5)) = _; rw [if_neg (by omega)]; omega
    · show n0 + (if x < 5 then 21 + 9 * x else 71 + 9 * (x - 5)) = _; rw [if_neg (by omega)]; omega
    · show n0 + (if 6 * x + j < 30 then 22 + 9 * ((6 * x + j) / 6) + (6 * x + j) % 6 else 72 + 9 * ((6 * x + j - 30) / 6) + (6 * x + j) % 6) = _; rw [if_neg (by omega)]; omega
    · show n0 + (if (6 * x + j) / 30 = 0 then 16 else 65) = _; rw [if_neg (by omega)]
theorem world_0 {D : va_G} {cy : Nat → ClassId} {n0 b : Nat} {H : Heap} (h : HP D cy n0 H) : va_P D vwCl (wl cy (adL n0 b) (hp S0)) H := by
  obtain ⟨f0, f1, f2, f3, f4, f5, f6, f7, f8, f9⟩ := h
  have hcl : ∀ x, x < 10 → va_at D vwCl (adL n0 b (11, x), te cy (adL n0 b) (hp S0 (11, x))) H ∧ va_at D vwCl (adL n0 b (12, x), te cy (adL n0 b) (hp S0 (12, x))) H ∧ va_at D vwCl (adL n0 b (13, x), te cy (adL n0 b) (hp S0 (13, x))) H ∧ ∀ j, j < 6 → va_at D vwCl (adL n0 b (14, 6 * x + j), te cy (adL n0 b) (hp S0 (14, 6 * x + j))) H := fun x hx => by
    by_cases h5 : x < 5
    · obtain ⟨e1, e2, e3, e4, e5⟩ := adL_cl (n0 := n0) (b := b) (x := x) (B := n0 + 17 + 2 + 9 * x) (t := n0 + 16) (Or.inl ⟨h5, by omega, rfl⟩)
      exact clause_at (f4.2.2.2 x h5) hx (by omega) e1 e2 e3 e4 e5
    · obtain ⟨e1, e2, e3, e4, e5⟩ := adL_cl (n0 := n0) (b := b) (x := x) (B := n0 + 65 + 2 + 2 + 9 * (x - 5)) (t := n0 + 65) (Or.inr ⟨by omega, hx, by omega, rfl⟩)
      exact clause_at (f6.2.2.2.2.2 (x - 5) (by omega)) hx (by omega) e1 e2 e3 e4 e5
  have h10 : ∀ x j, x < 2 → j < 5 → adL n0 b (11, 5 * x + j) = (if x = 0 then n0 + 17 + 2 + 9 * j else n0 + 65 + 2 + 2 + 9 * j) := fun x j hx hj => by
    by_cases h0 : x = 0
    · subst h0
      rw [if_pos rfl, (adL_cl (n0 := n0) (b := b) (x := 5 * 0 + j) (B := n0 + 19 + 9 * (5 * 0 + j)) (t := n0 + 16) (Or.inl ⟨by omega, rfl, rfl⟩)).1]; omega
    · rw [if_neg h0, (adL_cl (n0 := n0) (b := b) (x := 5 * x + j) (B := n0 + 69 + 9 * (5 * x + j - 5)) (t := n0 + 65) (Or.inr ⟨by omega, by omega, rfl, rfl⟩)).1]; omega
  have all : ∀ i ∈ ids, va_at D vwCl (adL n0 b i, te cy (adL n0 b) (hp S0 i)) H := by
    intro i hi
    unfold ids at hi
    rcases List.mem_append.mp hi with hi | hi
    · simp only [List.mem_cons, List.not_mem_nil, or_false] at hi
      rcases hi with rfl | rfl | rfl | rfl | rfl | rfl | rfl | rfl
      · exact f0
      · exact f1
      · exact f2
      · exact f3.1
      · refine toq f3.2.1 (fun j hj => ?_)
        show some (n0 + (5 + 2 * j)) = some (n0 + 4 + 1 + 2 * j)
        congr 1
        omega
      · exact f6.1
      · exact f7
      · exact f9
    rcases List.mem_append.mp hi with hi | hi
    · obtain ⟨x, hx, rfl⟩ := List.mem_map.mp hi
      have hx := List.mem_range.mp hx
      have h := (f3.2.2 x hx).1
      show va_at D vwCl (n0 + (5 + 2 * x), .inr (7, [.ref (n0 + (6 + 2 * x)), tv Prod.snd (vi 0), tv Prod.snd (vi 0), tv Prod.snd (vi 0), tv Prod.snd (vi 0)])) H
      rw [show n0 + (5 + 2 * x) = n0 + 4 + 1 + 2 * x by omega, show n0 + (6 + 2 * x) = n0 + 4 + 1 + 2 * x + 1 by omega]
      exact h
    rcases List.mem_append.mp hi with hi | hi
    · obtain ⟨x, hx, rfl⟩ := List.mem_map.mp hi
      have hx := List.mem_range.mp hx
      have h := (f3.2.2 x hx).2
      have e : adL n0 b (6, x) = n0 + 4 + 1 + 2 * x + 1 := by show n0 + (6 + 2 * x) = _; omega
      rw [e]
      exact h
    rcases List.mem_append.mp hi with hi | hi
    · obtain ⟨x, hx, rfl⟩ := List.mem_map.mp hi
      have hx := List.mem_range.mp hx
      rcases (show x = 0 ∨ x = 1 by omega) with rfl | rfl
      · exact f5
      · exact f6.2.1
    rcases List.mem_append.mp hi with hi | hi
    · obtain ⟨x, hx, rfl⟩ := List.mem_map.mp hi
      have hx := List.mem_range.mp hx
      rcases (show x = 0 ∨ x = 1 by omega) with rfl | rfl
      · exact f4.1
      · exact f6.2.2.1
    rcases List.mem_append.mp hi with hi | hi
    · obtain ⟨x, hx, rfl⟩ := List.mem_map.mp hi
      have hx := List.mem_range.mp hx
      rcases (show x = 0 ∨ x = 1 by omega) with rfl | rfl
      · exact f4.2.1
      · exact f6.2.2.2.1
    rcases List.mem_append.mp hi with hi | hi
    · obtain ⟨x, hx, rfl⟩ := List.mem_map.mp hi
      have hx := List.mem_range.mp hx
      rcases (show x = 0 ∨ x = 1 by omega) with rfl | rfl
      · exact toq f4.2.2.1 (fun j hj => congrArg some (h10 0 j (by omega) hj))
      · exact toq f6.2.2.2.2.1 (fun j hj => congrArg some (h10 1 j (by omega) hj))
    rcases List.mem_append.mp hi with hi | hi
    · obtain ⟨x, hx, rfl⟩ := List.mem_map.mp hi
      exact (hcl x (List.mem_range.mp hx)).1
    rcases List.mem_append.mp hi with hi | hi
    · obtain ⟨x, hx, rfl⟩ := List.mem_map.mp hi
      exact (hcl x (List.mem_range.mp hx)).2.1
    rcases List.mem_append.mp hi with hi | hi
    · obtain ⟨x, hx, rfl⟩ := List.mem_map.mp hi
      exact (hcl x (List.mem_range.mp hx)).2.2.1
    rcases List.mem_append.mp hi with hi | hi
    · obtain ⟨x, hx, rfl⟩ := List.mem_map.mp hi
      have hx := List.mem_range.mp hx
      have h := (hcl (x / 6) (by omega)).2.2.2 (x % 6) (by omega)
      rw [show 6 * (x / 6) + x % 6 = x by omega] at h
      exact h
    obtain ⟨k, hk, rfl⟩ := List.mem_map.mp hi
    simp only [List.mem_cons, List.not_mem_nil, or_false] at hk
    rcases hk with rfl | rfl | rfl | rfl | rfl | rfl | rfl | rfl | rfl | rfl | rfl | rfl | rfl | rfl | rfl | rfl | rfl | rfl | rfl | rfl | rfl
    · exact f8 0 (by decide)
    · exact f8 1 (by decide)
    · exact f8 2 (by decide)
    · exact f8 3 (by decide)
    · exact f8 4 (by decide)
    · exact f8 5 (by decide)
    · exact f8 6 (by decide)
    · exact f8 7 (by decide)
    · exact f8 8 (by decide)
    · exact f8 9 (by decide)
    · exact f8 10 (by decide)
    · exact f8 11 (by decide)
    · exact f8 12 (by decide)
    · exact f8 13 (by decide)
    · exact f8 14 (by decide)
    · exact f8 15 (by decide)
    · exact f8 16 (by decide)
    · exact f8 17 (by decide)
    · exact f8 18 (by decide)
    · exact f8 19 (by decide)
    · exact f8 20 (by decide)
  intro k q hq
  obtain ⟨i, hi, rfl⟩ := List.mem_map.mp (List.mem_of_getElem? hq)
  exact all i hi
