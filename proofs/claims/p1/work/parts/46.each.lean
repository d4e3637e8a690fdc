/-! ===== EACH FIRST CALL, ALL ARGUMENTS (by program: wip/gen/mk46.py) ===== -/
def prL (mx mm : Nat) (as : List Value) (d k : Nat) (f : Nat → qC) (v : Int64) : Prop := ∃ h1, qMC d mx (.ref 16 :: as) (hF f, 97, k) (some (.long v), h1) ∧ ∃ h2, qMC d mm (.ref 55 :: as) h1 (some (.long v), h2) ∧ h2.2 = (97, k)
theorem i32_of {n : Int32} {z : Int} (h : n.toInt = z) (hz : -2147483648 ≤ z ∧ z < 2147483648) : n = Int32.ofInt z := by
  rw [← h]; exact (Int32.ofInt_toInt n).symm
theorem pa_cut {d k : Nat} {f : Nat → qC} {x0 x1 x2 x3 x4 x5 : Int32} : ∃ v, prI 24 75 [.int x0, .int x1, .int x2, .int x3, .int x4, .int x5] (d + 9) k f v := ⟨-1001, (hF f, 97, k), xf_cut.mpr rfl, (hF f, 97, k), (mf_cut rfl).mpr rfl, rfl⟩
theorem pa_slice {d k : Nat} {f : Nat → qC} {x0 x1 x2 : Int32} : ∃ v, prI 25 76 [.int x0, .int x1, .int x2] (d + 9) k f v := ⟨-1001, (hF f, 97, k), xf_slice.mpr rfl, (hF f, 97, k), (mf_slice rfl).mpr rfl, rfl⟩
theorem pa_shadow {d k : Nat} {f : Nat → qC} {x0 x1 : Int32} : ∃ v, prI 26 77 [.int x0, .int x1] (d + 9) k f v := ⟨-1001, (hF f, 97, k), xf_shadow.mpr rfl, (hF f, 97, k), (mf_shadow rfl).mpr rfl, rfl⟩
theorem pa_raise {d k : Nat} {f : Nat → qC} {x0 x1 x2 : Int32} : ∃ v, prI 27 78 [.int x0, .int x1, .int x2] (d + 9) k f v := ⟨-1001, (hF f, 97, k), xf_raise.mpr rfl, (hF f, 97, k), (mf_raise rfl).mpr rfl, rfl⟩
theorem pa_about {d k : Nat} {f : Nat → qC} {x0 x1 : Int32} : ∃ v, prI 30 81 [.int x0, .int x1] (d + 9) k f v := ⟨-1001, (hF f, 97, k), xf_about.mpr rfl, (hF f, 97, k), (mf_about rfl).mpr rfl, rfl⟩
theorem pa_faces {d k : Nat} {f : Nat → qC} {x0 x1 : Int32} : ∃ v, prI 33 85 [.int x0, .int x1] (d + 9) k f v := ⟨-1001, (hF f, 97, k), xf_faces.mpr rfl, (hF f, 97, k), (mf_faces rfl).mpr rfl, rfl⟩
theorem pa_face {d k : Nat} {f : Nat → qC} {x0 x1 x2 : Int32} : ∃ v, prI 34 86 [.int x0, .int x1, .int x2] (d + 9) k f v := ⟨-1001, (hF f, 97, k), xf_face.mpr rfl, (hF f, 97, k), (mf_face rfl).mpr rfl, rfl⟩
theorem pa_lies {d k : Nat} {f : Nat → qC} {x0 x1 x2 x3 : Int32} : ∃ v, prI 35 87 [.int x0, .int x1, .int x2, .int x3] (d + 9) k f v := ⟨-1001, (hF f, 97, k), xf_lies.mpr rfl, (hF f, 97, k), (mf_lies rfl).mpr rfl, rfl⟩
theorem pa_h {d k : Nat} {f : Nat → qC} {x0 x1 : Int32} : ∃ v, prI 36 88 [.int x0, .int x1] (d + 9) k f v := ⟨-1001, (hF f, 97, k), xf_h.mpr rfl, (hF f, 97, k), (mf_h rfl).mpr rfl, rfl⟩
theorem pa_sum {d k : Nat} {f : Nat → qC} {x0 : Int32} : ∃ v, prI 37 89 [.int x0] (d + 9) k f v := ⟨-1001, (hF f, 97, k), xf_sum.mpr rfl, (hF f, 97, k), (mf_sum rfl).mpr rfl, rfl⟩
theorem pa_far {d k : Nat} {f : Nat → qC} {x0 : Int32} : ∃ v, prI 48 100 [.int x0] (d + 9) k f v := ⟨-1001, (hF f, 97, k), xf_far.mpr rfl, (hF f, 97, k), (mf_far rfl).mpr rfl, rfl⟩
theorem pa_ring {d k : Nat} {f : Nat → qC} {x0 x1 : Int32} : ∃ v, prI 52 104 [.int x0, .int x1] (d + 9) k f v := ⟨-1001, (hF f, 97, k), xf_ring.mpr rfl, (hF f, 97, k), (mf_ring rfl).mpr rfl, rfl⟩
theorem pa_where {d k : Nat} {f : Nat → qC} {x0 : Int32} : ∃ v, prI 53 105 [.int x0] (d + 9) k f v := ⟨-1001, (hF f, 97, k), xf_where.mpr rfl, (hF f, 97, k), (mf_where rfl).mpr rfl, rfl⟩
theorem pa_parted {d k : Nat} {f : Nat → qC} {x0 : Int32} : ∃ v, prI 54 106 [.int x0] (d + 9) k f v := ⟨-1001, (hF f, 97, k), xf_parted.mpr rfl, (hF f, 97, k), (mf_parted rfl).mpr rfl, rfl⟩
theorem pa_size {d k : Nat} {f : Nat → qC} {x0 : Int32} : ∃ v, prL 56 108 [.int x0] (d + 9) k f v := ⟨-1001, (hF f, 97, k), xf_size.mpr rfl, (hF f, 97, k), (mf_size rfl).mpr rfl, rfl⟩
theorem pa_piece {d k : Nat} {f : Nat → qC} {x0 x1 x2 : Int32} : ∃ v, prL 57 109 [.int x0, .int x1, .int x2] (d + 9) k f v := ⟨-1001, (hF f, 97, k), xf_piece.mpr rfl, (hF f, 97, k), (mf_piece rfl).mpr rfl, rfl⟩
theorem pa_whole {d k : Nat} {f : Nat → qC} {x0 x1 x2 : Int32} : ∃ v, prI 58 110 [.int x0, .int x1, .int x2] (d + 9) k f v := ⟨-1001, (hF f, 97, k), xf_whole.mpr rfl, (hF f, 97, k), (mf_whole rfl).mpr rfl, rfl⟩
theorem pa_product {d k : Nat} {f : Nat → qC} {x0 x1 : Int32} : ∃ v, prI 28 79 [.int x0, .int x1] (d + 9) k f v := ⟨-1001, (hF f, 97, k), xf_product.mpr rfl, (hF f, 97, k), (mf_product rfl).mpr rfl, rfl⟩
theorem pa_both {d k : Nat} {f : Nat → qC} {x0 x1 : Int32} : ∃ v, prI 29 80 [.int x0, .int x1] (d + 9) k f v := ⟨-1001, (hF f, 97, k), xf_both.mpr rfl, (hF f, 97, k), (mf_both rfl).mpr rfl, rfl⟩
theorem pa_same {d k : Nat} {f : Nat → qC} {x0 x1 : Int32} : ∃ v, prI 38 90 [.int x0, .int x1] (d + 9) k f v := ⟨-1001, (hF f, 97, k), xf_same.mpr rfl, (hF f, 97, k), (mf_same rfl).mpr rfl, rfl⟩
theorem pa_inside {d k : Nat} {f : Nat → qC} {x0 x1 : Int32} : ∃ v, prI 39 91 [.int x0, .int x1] (d + 9) k f v := ⟨-1001, (hF f, 97, k), xf_inside.mpr rfl, (hF f, 97, k), (mf_inside rfl).mpr rfl, rfl⟩
theorem pa_holds {d k : Nat} {f : Nat → qC} {x0 x1 : Int32} : ∃ v, prI 55 107 [.int x0, .int x1] (d + 9) k f v := ⟨-1001, (hF f, 97, k), xf_holds.mpr rfl, (hF f, 97, k), (mf_holds rfl).mpr rfl, rfl⟩
theorem pa_corner {d k : Nat} {f : Nat → qC} {x0 x1 x2 : Int32} : ∃ v, prI 31 83 [.int x0, .int x1, .int x2] (d + 9) k f v := ⟨-1001, (hF f, 97, k), xf_corner.mpr rfl, (hF f, 97, k), (mf_corner rfl).mpr rfl, rfl⟩
theorem pa_walk {d k : Nat} {f : Nat → qC} {x0 x1 x2 : Int32} : ∃ v, prI 47 99 [.int x0, .int x1, .int x2] (d + 9) k f v := ⟨-1001, (hF f, 97, k), xf_walk.mpr rfl, (hF f, 97, k), (mf_walk rfl).mpr rfl, rfl⟩
theorem pa_up {d k : Nat} {f : Nat → qC} {x0 x1 x2 : Int32} : ∃ v, prI 50 102 [.int x0, .int x1, .int x2] (d + 9) k f v := ⟨-1001, (hF f, 97, k), xf_up.mpr rfl, (hF f, 97, k), (mf_up rfl).mpr rfl, rfl⟩
theorem pa_ups {d k : Nat} {f : Nat → qC} {x0 x1 x2 : Int32} : ∃ v, prL 51 103 [.int x0, .int x1, .int x2] (d + 9) k f v := ⟨-1001, (hF f, 97, k), xf_ups.mpr rfl, (hF f, 97, k), (mf_ups rfl).mpr rfl, rfl⟩
theorem pa_meets {d k : Nat} {f : Nat → qC} {x0 : Int32} : ∃ v, prI 45 97 [.int x0] (d + 9) k f v := ⟨-1001, (hF f, 97, k), xf_meets.mpr rfl, (hF f, 97, k), (mf_meets rfl).mpr rfl, rfl⟩
theorem pa_fresh {d k : Nat} {f : Nat → qC} {x0 x1 : Int32} : ∃ v, prI 46 98 [.int x0, .int x1] (d + 9) k f v := ⟨-1001, (hF f, 97, k), xf_fresh.mpr rfl, (hF f, 97, k), (mf_fresh rfl).mpr rfl, rfl⟩
theorem pa_wipe {d k : Nat} {f : Nat → qC}  : ∃ v, prI 22 73 [] (d + 9) k f v := ⟨_, pr_wipe⟩
theorem pa_clear {d k : Nat} {f : Nat → qC}  : ∃ v, prI 44 96 [] (d + 9) k f v := ⟨_, pr_clear⟩
theorem pa_fault {d k : Nat} {f : Nat → qC}  : ∃ v, prI 61 114 [] (d + 9) k f v := ⟨_, pr_fault⟩
theorem pa_read {d k : Nat} {f : Nat → qC}  : ∃ v, prI 60 113 [] (d + 9) k f v := ⟨_, pr_read⟩
theorem pa_claim {d k : Nat} {f : Nat → qC} {n : Int32} : ∃ v, prI 62 115 [.int n] (d + 9) k f v := by
  by_cases h : n < 0
  · exact ⟨_, pr_claim_1 h⟩
  · exact ⟨_, pr_claim_2 h⟩
theorem pa_pattern {d k : Nat} {f : Nat → qC} {n : Int32} : ∃ v, prI 40 92 [.int n] (d + 9) k f v := by
  by_cases h : n < 3
  · exact ⟨_, pr_pattern_2 h⟩
  · by_cases h2 : 12 < n
    · exact ⟨_, pr_pattern_3 h h2⟩
    · exact ⟨_, pr_pattern_1 h h2⟩
theorem pa_place {d k : Nat} {f : Nat → qC} {n : Int32} : ∃ v, prI 42 94 [.int n] (d + 9) k f v := by
  by_cases h : 2 ≤ n ∧ n ≤ 4
  · exact ⟨_, pr_place_2 h⟩
  · exact ⟨_, pr_place_1 h⟩
theorem pa_row {d k : Nat} {f : Nat → qC} {n : Int32} : ∃ v, prI 43 95 [.int n] (d + 9) k f v := by
  by_cases h : n < 0
  · exact ⟨_, pr_row_1 h⟩
  · by_cases h2 : 199 < n
    · exact ⟨_, pr_row_2 h h2⟩
    · exact ⟨_, pr_row_3 h h2⟩
theorem pa_set {d k : Nat} {f : Nat → qC} {n : Int32} : ∃ v, prI 41 93 [.int n] (d + 9) k f v := by
  by_cases h : n ≤ 0
  · exact ⟨_, pr_set_1 h⟩
  · by_cases h2 : 8 ≤ n
    · exact ⟨_, pr_set_2 h2⟩
    · exact ⟨_, pr_set_3 h h2⟩
theorem pa_tilt {d k : Nat} {f : Nat → qC} {n0 n1 n2 n3 : Int32} : ∃ v, prI 49 101 [.int n0, .int n1, .int n2, .int n3] (d + 9) k f v := by
  by_cases g0 : -99 ≤ n0 ∧ n0 ≤ 99
  · skip
    by_cases g1 : -99 ≤ n1 ∧ n1 ≤ 99
    · skip
      by_cases g2 : -99 ≤ n2 ∧ n2 ≤ 99
      · skip
        by_cases g3 : -99 ≤ n3 ∧ n3 ≤ 99
        · skip
          exact ⟨_, pr_tilt_4 g0 g1 g2 g3⟩
        · exact ⟨_, pr_tilt_3 g0 g1 g2 g3⟩
      · exact ⟨_, pr_tilt_2 g0 g1 g2⟩
    · exact ⟨_, pr_tilt_1 g0 g1⟩
  · exact ⟨_, pr_tilt_0 g0⟩
theorem pa_point {d k : Nat} {f : Nat → qC} {n0 n1 n2 n3 : Int32} : ∃ v, prI 21 72 [.int n0, .int n1, .int n2, .int n3] (d + 9) k f v := by
  by_cases g0 : -999 ≤ n0 ∧ n0 ≤ 999
  · skip
    by_cases g1 : -999 ≤ n1 ∧ n1 ≤ 999
    · skip
      by_cases g2 : -999 ≤ n2 ∧ n2 ≤ 999
      · skip
        by_cases g3 : -999 ≤ n3 ∧ n3 ≤ 999
        · skip
          exact ⟨_, pr_point_4 g0 g1 g2 g3⟩
        · exact ⟨_, pr_point_3 g0 g1 g2 g3⟩
      · exact ⟨_, pr_point_2 g0 g1 g2⟩
    · exact ⟨_, pr_point_1 g0 g1⟩
  · exact ⟨_, pr_point_0 g0⟩
theorem pa_count {d k : Nat} {f : Nat → qC} {n : Int32} : ∃ v, prI 32 84 [.int n] (d + 9) k f v := by
  by_cases h : n.toInt < 0 ∨ 6 < n.toInt
  · exact ⟨_, pr_count_7 h⟩
  · have h1 : n.toInt = 0 ∨ n.toInt = 1 ∨ n.toInt = 2 ∨ n.toInt = 3 ∨ n.toInt = 4 ∨ n.toInt = 5 ∨ n.toInt = 6 := by omega
    rcases h1 with h1 | h1 | h1 | h1 | h1 | h1 | h1
    · rw [i32_of h1 (by decide)]; exact ⟨_, pr_count_0⟩
    · rw [i32_of h1 (by decide)]; exact ⟨_, pr_count_1⟩
    · rw [i32_of h1 (by decide)]; exact ⟨_, pr_count_2⟩
    · rw [i32_of h1 (by decide)]; exact ⟨_, pr_count_3⟩
    · rw [i32_of h1 (by decide)]; exact ⟨_, pr_count_4⟩
    · rw [i32_of h1 (by decide)]; exact ⟨_, pr_count_5⟩
    · rw [i32_of h1 (by decide)]; exact ⟨_, pr_count_6⟩
theorem pa_body {d k : Nat} {f : Nat → qC} {n : Int32} : ∃ v, prI 23 74 [.int n] (d + 9) k f v := by
  by_cases h : 2 ≤ n ∧ n ≤ 4
  · have h1 : n.toInt = 2 ∨ n.toInt = 3 ∨ n.toInt = 4 := by
      have a := Int32.le_iff_toInt_le.mp h.1
      have b := Int32.le_iff_toInt_le.mp h.2
      rw [show (2 : Int32).toInt = 2 by decide] at a
      rw [show (4 : Int32).toInt = 4 by decide] at b
      omega
    rcases h1 with h1 | h1 | h1
    · rw [i32_of h1 (by decide)]; exact ⟨_, pr_body_2⟩
    · rw [i32_of h1 (by decide)]; exact ⟨_, pr_body_3⟩
    · rw [i32_of h1 (by decide)]; exact ⟨_, pr_body_4⟩
  · exact ⟨_, pr_body_1 h⟩
theorem pa_feed {d k : Nat} {f : Nat → qC} {n : Int32} {w : Int64} : ∃ v, prI 59 111 [.int n, .long w] (d + 9) k f v := by
  by_cases h : n < 1
  · exact ⟨_, pr_feed_9 h⟩
  · by_cases h2 : 8 < n
    · exact ⟨_, pr_feed_10 h h2⟩
    · have h1 : n.toInt = 1 ∨ n.toInt = 2 ∨ n.toInt = 3 ∨ n.toInt = 4 ∨ n.toInt = 5 ∨ n.toInt = 6 ∨ n.toInt = 7 ∨ n.toInt = 8 := by
        have a := Int32.le_iff_toInt_le.mp (Int32.not_lt.mp h)
        have b := Int32.le_iff_toInt_le.mp (Int32.not_lt.mp h2)
        rw [show (1 : Int32).toInt = 1 by decide] at a
        rw [show (8 : Int32).toInt = 8 by decide] at b
        omega
      rcases h1 with h1 | h1 | h1 | h1 | h1 | h1 | h1 | h1
      · rw [i32_of h1 (by decide)]; exact ⟨_, pr_feed_1⟩
      · rw [i32_of h1 (by decide)]; exact ⟨_, pr_feed_2⟩
      · rw [i32_of h1 (by decide)]; exact ⟨_, pr_feed_3⟩
      · rw [i32_of h1 (by decide)]; exact ⟨_, pr_feed_4⟩
      · rw [i32_of h1 (by decide)]; exact ⟨_, pr_feed_5⟩
      · rw [i32_of h1 (by decide)]; exact ⟨_, pr_feed_6⟩
      · rw [i32_of h1 (by decide)]; exact ⟨_, pr_feed_7⟩
      · rw [i32_of h1 (by decide)]; exact ⟨_, pr_feed_8⟩
