/-! ===== GEOMETRY: the cross product (by program: mkcrs.py, mkdep.py) ===== -/
theorem gcross {m0 m1 m2 m3 u0 u1 u2 u3 v0 v1 v2 v3 w0 w1 w2 w3 : Int} (A : m0*u0+m1*u1+m2*u2+m3*u3 = 0) (B : m0*v0+m1*v1+m2*v2+m3*v3 = 0) (C : m0*w0+m1*w1+m2*w2+m3*w3 = 0) : m0*(-(u0*(v2*w3-v3*w2)-u2*(v0*w3-v3*w0)+u3*(v0*w2-v2*w0))) = m1*(u1*(v2*w3-v3*w2)-u2*(v1*w3-v3*w1)+u3*(v1*w2-v2*w1)) ∧ m0*(u0*(v1*w3-v3*w1)-u1*(v0*w3-v3*w0)+u3*(v0*w1-v1*w0)) = m2*(u1*(v2*w3-v3*w2)-u2*(v1*w3-v3*w1)+u3*(v1*w2-v2*w1)) ∧ m0*(-(u0*(v1*w2-v2*w1)-u1*(v0*w2-v2*w0)+u2*(v0*w1-v1*w0))) = m3*(u1*(v2*w3-v3*w2)-u2*(v1*w3-v3*w1)+u3*(v1*w2-v2*w1)) ∧ m1*(u0*(v1*w3-v3*w1)-u1*(v0*w3-v3*w0)+u3*(v0*w1-v1*w0)) = m2*(-(u0*(v2*w3-v3*w2)-u2*(v0*w3-v3*w0)+u3*(v0*w2-v2*w0))) ∧ m1*(-(u0*(v1*w2-v2*w1)-u1*(v0*w2-v2*w0)+u2*(v0*w1-v1*w0))) = m3*(-(u0*(v2*w3-v3*w2)-u2*(v0*w3-v3*w0)+u3*(v0*w2-v2*w0))) ∧ m2*(-(u0*(v1*w2-v2*w1)-u1*(v0*w2-v2*w0)+u2*(v0*w1-v1*w0))) = m3*(u0*(v1*w3-v3*w1)-u1*(v0*w3-v3*w0)+u3*(v0*w1-v1*w0)) := by
  have h01 : m0*(-(u0*(v2*w3-v3*w2)-u2*(v0*w3-v3*w0)+u3*(v0*w2-v2*w0))) - m1*(u1*(v2*w3-v3*w2)-u2*(v1*w3-v3*w1)+u3*(v1*w2-v2*w1)) = -((m0*u0+m1*u1+m2*u2+m3*u3)*(v2*w3-v3*w2)-(m0*v0+m1*v1+m2*v2+m3*v3)*(u2*w3-u3*w2)+(m0*w0+m1*w1+m2*w2+m3*w3)*(u2*v3-u3*v2)) := by grind
  rw [A, B, C, Int.zero_mul, Int.zero_mul, Int.zero_mul] at h01
  have h02 : m0*(u0*(v1*w3-v3*w1)-u1*(v0*w3-v3*w0)+u3*(v0*w1-v1*w0)) - m2*(u1*(v2*w3-v3*w2)-u2*(v1*w3-v3*w1)+u3*(v1*w2-v2*w1)) = ((m0*u0+m1*u1+m2*u2+m3*u3)*(v1*w3-v3*w1)-(m0*v0+m1*v1+m2*v2+m3*v3)*(u1*w3-u3*w1)+(m0*w0+m1*w1+m2*w2+m3*w3)*(u1*v3-u3*v1)) := by grind
  rw [A, B, C, Int.zero_mul, Int.zero_mul, Int.zero_mul] at h02
  have h03 : m0*(-(u0*(v1*w2-v2*w1)-u1*(v0*w2-v2*w0)+u2*(v0*w1-v1*w0))) - m3*(u1*(v2*w3-v3*w2)-u2*(v1*w3-v3*w1)+u3*(v1*w2-v2*w1)) = -((m0*u0+m1*u1+m2*u2+m3*u3)*(v1*w2-v2*w1)-(m0*v0+m1*v1+m2*v2+m3*v3)*(u1*w2-u2*w1)+(m0*w0+m1*w1+m2*w2+m3*w3)*(u1*v2-u2*v1)) := by grind
  rw [A, B, C, Int.zero_mul, Int.zero_mul, Int.zero_mul] at h03
  have h12 : m1*(u0*(v1*w3-v3*w1)-u1*(v0*w3-v3*w0)+u3*(v0*w1-v1*w0)) - m2*(-(u0*(v2*w3-v3*w2)-u2*(v0*w3-v3*w0)+u3*(v0*w2-v2*w0))) = -((m0*u0+m1*u1+m2*u2+m3*u3)*(v0*w3-v3*w0)-(m0*v0+m1*v1+m2*v2+m3*v3)*(u0*w3-u3*w0)+(m0*w0+m1*w1+m2*w2+m3*w3)*(u0*v3-u3*v0)) := by grind
  rw [A, B, C, Int.zero_mul, Int.zero_mul, Int.zero_mul] at h12
  have h13 : m1*(-(u0*(v1*w2-v2*w1)-u1*(v0*w2-v2*w0)+u2*(v0*w1-v1*w0))) - m3*(-(u0*(v2*w3-v3*w2)-u2*(v0*w3-v3*w0)+u3*(v0*w2-v2*w0))) = ((m0*u0+m1*u1+m2*u2+m3*u3)*(v0*w2-v2*w0)-(m0*v0+m1*v1+m2*v2+m3*v3)*(u0*w2-u2*w0)+(m0*w0+m1*w1+m2*w2+m3*w3)*(u0*v2-u2*v0)) := by grind
  rw [A, B, C, Int.zero_mul, Int.zero_mul, Int.zero_mul] at h13
  have h23 : m2*(-(u0*(v1*w2-v2*w1)-u1*(v0*w2-v2*w0)+u2*(v0*w1-v1*w0))) - m3*(u0*(v1*w3-v3*w1)-u1*(v0*w3-v3*w0)+u3*(v0*w1-v1*w0)) = -((m0*u0+m1*u1+m2*u2+m3*u3)*(v0*w1-v1*w0)-(m0*v0+m1*v1+m2*v2+m3*v3)*(u0*w1-u1*w0)+(m0*w0+m1*w1+m2*w2+m3*w3)*(u0*v1-u1*v0)) := by grind
  rw [A, B, C, Int.zero_mul, Int.zero_mul, Int.zero_mul] at h23
  refine ⟨by omega, by omega, by omega, by omega, by omega, by omega⟩
theorem gdep {u0 u1 u2 u3 v0 v1 v2 v3 w0 w1 w2 w3 : Int} (N0 : (u1*(v2*w3-v3*w2)-u2*(v1*w3-v3*w1)+u3*(v1*w2-v2*w1)) = 0) (N1 : (u0*(v2*w3-v3*w2)-u2*(v0*w3-v3*w0)+u3*(v0*w2-v2*w0)) = 0) (N2 : (u0*(v1*w3-v3*w1)-u1*(v0*w3-v3*w0)+u3*(v0*w1-v1*w0)) = 0) (N3 : (u0*(v1*w2-v2*w1)-u1*(v0*w2-v2*w0)+u2*(v0*w1-v1*w0)) = 0) : ∃ a b c : Int, (a ≠ 0 ∨ b ≠ 0 ∨ c ≠ 0) ∧ a*u0+b*v0+c*w0 = 0 ∧ a*u1+b*v1+c*w1 = 0 ∧ a*u2+b*v2+c*w2 = 0 ∧ a*u3+b*v3+c*w3 = 0 := by
  by_cases q01 : u0*v1-u1*v0 = 0
  rotate_left
  · exact ⟨v0*w1-v1*w0, -(u0*w1-u1*w0), u0*v1-u1*v0, Or.inr (Or.inr q01), by grind, by grind, by grind, by grind⟩
  by_cases q02 : u0*v2-u2*v0 = 0
  rotate_left
  · exact ⟨v0*w2-v2*w0, -(u0*w2-u2*w0), u0*v2-u2*v0, Or.inr (Or.inr q02), by grind, by grind, by grind, by grind⟩
  by_cases q03 : u0*v3-u3*v0 = 0
  rotate_left
  · exact ⟨v0*w3-v3*w0, -(u0*w3-u3*w0), u0*v3-u3*v0, Or.inr (Or.inr q03), by grind, by grind, by grind, by grind⟩
  by_cases q12 : u1*v2-u2*v1 = 0
  rotate_left
  · exact ⟨v1*w2-v2*w1, -(u1*w2-u2*w1), u1*v2-u2*v1, Or.inr (Or.inr q12), by grind, by grind, by grind, by grind⟩
  by_cases q13 : u1*v3-u3*v1 = 0
  rotate_left
  · exact ⟨v1*w3-v3*w1, -(u1*w3-u3*w1), u1*v3-u3*v1, Or.inr (Or.inr q13), by grind, by grind, by grind, by grind⟩
  by_cases q23 : u2*v3-u3*v2 = 0
  rotate_left
  · exact ⟨v2*w3-v3*w2, -(u2*w3-u3*w2), u2*v3-u3*v2, Or.inr (Or.inr q23), by grind, by grind, by grind, by grind⟩
  by_cases z0 : u0 = 0
  rotate_left
  · exact ⟨-v0, u0, 0, Or.inr (Or.inl z0), by grind, by grind, by grind, by grind⟩
  by_cases z1 : u1 = 0
  rotate_left
  · exact ⟨-v1, u1, 0, Or.inr (Or.inl z1), by grind, by grind, by grind, by grind⟩
  by_cases z2 : u2 = 0
  rotate_left
  · exact ⟨-v2, u2, 0, Or.inr (Or.inl z2), by grind, by grind, by grind, by grind⟩
  by_cases z3 : u3 = 0
  rotate_left
  · exact ⟨-v3, u3, 0, Or.inr (Or.inl z3), by grind, by grind, by grind, by grind⟩
  exact ⟨1, 0, 0, Or.inl (by decide), by omega, by omega, by omega, by omega⟩
