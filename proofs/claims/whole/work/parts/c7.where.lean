/-! ===== THE REFERENCE: where, parted, holds ===== -/
section WHERE
variable {d : Nat} {h : qH} {bs : List bdy} {l : List pt4} {D : Nat}
/-- the corners in all planes that hold the place -/
def comS (es : List Nat) (Z : Nat → Bool) (n m : Nat) : Nat := mask (fun c => allN (fun j => !Z j || (es.getD j 0).testBit c) m) n
theorem bdG.cell (ok : okP l D) {m : Nat} {S : Nat → Nat} {G : Nat → Nat → Int} (b : bdG l D m S G) {x : Nat} (hx : MeetP (isFc l D) x) : ∃ k, k < D ∧ isCl l D k x := by
  have hD := ok.2.2.2.2
  by_cases hf : isFc l D x
  · exact ⟨D - 1, by omega, Or.inl ⟨rfl, hf⟩⟩
  · have mt : mtF l D m S x := by
      refine ⟨hx.1, ?_, fun c hc hall => hx.2.2 c hc fun y hy hs => ?_⟩
      · obtain ⟨y, hy, hs⟩ := hx.2.1
        obtain ⟨j, hj, rfl⟩ := b.fcI.mp hy
        exact ⟨j, hj, sub_iff.mp hs⟩
      · obtain ⟨j, hj, rfl⟩ := b.fcI.mp hy
        exact hall j hj (sub_iff.mp hs)
    have hk := mt_kind b.2.1 hD mt fun a ha e => hf (b.fcI.mpr ⟨a, ha, e⟩)
    exact ⟨kindOf x, by omega, Or.inr ⟨hk, hx, hf, rfl⟩⟩
theorem isPl.fc (ok : okP l D) {m : Nat} {S : Nat → Nat} {G : Nat → Nat → Int} (b : bdG l D m S G) {x : Nat} {q : Nat → Int} (hp : isPl l D x q) : gfc (D + 1) (ncr l D) (cX l D) (oF D q) ∧ isFc l D x ∧ ∀ c, x.testBit c = true ↔ c < ncr l D ∧ dt (D + 1) (oF D q) (cX l D c) = 0 := by
  obtain ⟨p0, p1, p2, p3, i, g, rfl, e⟩ := hp
  have hF := b.2.1.1.1
  have eo : ∀ k, k < D + 1 → oF D q k = oF D (chQ (lP l) l.length D p0 p1 p2 p3) k := by
    intro k hk
    have hD := i.1
    unfold oF pF
    by_cases z : k = D
    · rw [if_pos z, if_pos z, e 4 (by decide)]
    · rw [if_neg z, if_neg z, e k (by omega)]
  have ed : ∀ y, dt (D + 1) (oF D q) y = dt (D + 1) (oF D (chQ (lP l) l.length D p0 p1 p2 p3)) y := fun y => dt_ext eo
  have fc := (gcr_fc vX_one (vX_inj ok b.2.1.1.2.1) (geo_cr ok hF)).mpr (ch_fc i g)
  refine ⟨⟨⟨fun c hc => by rw [ed]; exact fc.1.1 c hc, ?_⟩, fun m' hm => ?_⟩, ⟨_, ⟨p0, p1, p2, p3, i, g, rfl⟩, rfl⟩, fun c => ?_⟩
  · obtain ⟨k, hk, hne⟩ := fc.1.2
    exact ⟨k, hk, by rw [eo k hk]; exact hne⟩
  · intro a c ha hc
    rw [eo a ha, eo c hc]
    exact fc.2 m' (fun c hc h0 => hm c hc (by rw [ed]; exact h0)) a c ha hc
  · rw [ch_zM i, sqP_zM, ed]
theorem tight_cell (ok : okP l D) (so : solid l D) {Qv : Nat → Nat → Int} (hQ : ∀ j, j < (cls l D (D - 1)).length → isPl l D ((cls l D (D - 1)).getD j 0) (Qv j)) {p : pt4} (h1 : ∀ j, j < (cls l D (D - 1)).length → ovZ (Qv j) D p 1 ≤ 0) (h2 : ∃ j, j < (cls l D (D - 1)).length ∧ ovZ (Qv j) D p 1 = 0) : ∃ k, k < D ∧ comS (cls l D (D - 1)) (fun j => decide (ovZ (Qv j) D p 1 = 0)) (ncr l D) (cls l D (D - 1)).length ∈ cls l D k := by
  obtain ⟨m, S, G, b⟩ := bdG_ex ok so
  have hD := ok.2.2.2.2
  have h16 := b.n16
  obtain ⟨es, ees⟩ : ∃ es, es = cls l D (D - 1) := ⟨_, rfl⟩
  rw [← ees] at hQ h1 h2 ⊢
  have bit : ∀ c, (comS es (fun j => decide (ovZ (Qv j) D p 1 = 0)) (ncr l D) es.length).testBit c = true ↔ c < ncr l D ∧ ∀ j, j < es.length → ovZ (Qv j) D p 1 = 0 → (es.getD j 0).testBit c = true := by
    intro c
    unfold comS
    rw [mask_bit, Bool.and_eq_true, decide_eq_true_eq, allN_iff]
    refine and_congr_right fun _ => ⟨fun q j hj h0 => ?_, fun q j hj => ?_⟩
    · have := q j hj
      dsimp only at this
      rw [decide_eq_true h0] at this
      exact this
    · by_cases h0 : ovZ (Qv j) D p 1 = 0
      · rw [q j hj h0, Bool.or_true]
      · dsimp only; rw [decide_eq_false h0]; rfl
  have hlt : comS es (fun j => decide (ovZ (Qv j) D p 1 = 0)) (ncr l D) es.length < 65536 := mask_16 h16
  obtain ⟨j0, hj0, z0⟩ := h2
  have mem : ∀ x, isFc l D x → ∃ j, j < es.length ∧ es.getD j 0 = x := by
    intro x hx
    have hm : x ∈ es := by
      rw [ees]
      obtain ⟨j, hj, e⟩ := b.fcI.mp hx
      refine cls_mem.mpr ⟨?_, Or.inl ⟨rfl, hx⟩⟩
      rw [e]
      refine Nat.lt_of_not_le fun hle => ?_
      obtain ⟨c, hc1, hc2⟩ := Nat.exists_ge_and_testBit_of_ge_two_pow (n := 16) hle
      have := ((b.bit hj).mp hc2).1
      omega
    obtain ⟨j, hj, e⟩ := List.getElem_of_mem hm
    exact ⟨j, hj, by rw [List.getD_eq_getElem?_getD, List.getElem?_eq_getElem hj]; exact e⟩
  obtain ⟨c0, hc0, ht⟩ := tight b.P (by have := b.nc; omega) (m := es.length) (G := fun j => oF D (Qv j)) (fun j hj => ((hQ j hj).fc ok b).1.1.1) (fun f hf => by
    obtain ⟨a, ha, z1, z2⟩ := b.all ok hf
    obtain ⟨j, hj, e⟩ := mem _ (b.fcI.mpr ⟨a, ha, rfl⟩)
    have hb := ((hQ j hj).fc ok b).2.2
    refine ⟨j, hj, fun c hc h0 => ?_, fun c hc h0 => ?_⟩
    · have h3 : (es.getD j 0).testBit c = true := by rw [e]; exact (b.bit ha).mpr ⟨hc, z1 c hc h0⟩
      exact ((hb c).mp h3).2
    · have h3 := (hb c).mpr ⟨hc, h0⟩
      rw [e] at h3
      exact z2 c hc ((b.bit ha).mp h3).2) (fun j hj => ((hQ j hj).fc ok b).1) (x := pX p D) (by show (if D + 1 - 1 = D then 1 else _) = 1; rw [if_pos (by omega)]) (fun j hj => by rw [← ov_dt hD]; exact h1 j hj)
  have mt : MeetP (isFc l D) (comS es (fun j => decide (ovZ (Qv j) D p 1 = 0)) (ncr l D) es.length) := by
    refine ⟨fun e => ?_, ⟨es.getD j0 0, ((hQ j0 hj0).fc ok b).2.1, sub_iff.mpr fun c hc => ((bit c).mp hc).2 j0 hj0 z0⟩, fun c hc hall => (bit c).mpr ?_⟩
    · have := (bit c0).mpr ⟨hc0, fun j hj h0 => (((hQ j hj).fc ok b).2.2 c0).mpr ⟨hc0, ht j hj (by rw [← ov_dt hD]; exact h0)⟩⟩
      rw [e, Nat.zero_testBit] at this
      cases this
    · have g : ∀ j, j < es.length → ovZ (Qv j) D p 1 = 0 → (es.getD j 0).testBit c = true := fun j hj h0 => hall _ ((hQ j hj).fc ok b).2.1 (sub_iff.mpr fun x hx => ((bit x).mp hx).2 j hj h0)
      exact ⟨((((hQ j0 hj0).fc ok b).2.2 c).mp (g j0 hj0 z0)).1, g⟩
  obtain ⟨k, hk, hcl⟩ := b.cell ok mt
  exact ⟨k, hk, cls_mem.mpr ⟨hlt, hcl⟩⟩
/-- where a place is: the answer -/
noncomputable def whrZ (bs : List bdy) (i : Nat) (Qv : Nat → Nat → Int) (p : pt4) (v : Int32) : Prop :=
  ((∃ j, j < (fct bs i).length ∧ 0 < ovZ (Qv j) (dmn bs i) p 1) ∧ v = -1) ∨ ((∀ j, j < (fct bs i).length → ovZ (Qv j) (dmn bs i) p 1 < 0) ∧ v = iN (dmn bs i)) ∨
  ((∀ j, j < (fct bs i).length → ovZ (Qv j) (dmn bs i) p 1 ≤ 0) ∧ (∃ j, j < (fct bs i).length ∧ ovZ (Qv j) (dmn bs i) p 1 = 0) ∧ ∃ k, (k < dmn bs i ∧ comS (fct bs i) (fun j => decide (ovZ (Qv j) (dmn bs i) p 1 = 0)) (cnr bs i).length (fct bs i).length ∈ cel bs i k ∧ ∀ k', k' < k → comS (fct bs i) (fun j => decide (ovZ (Qv j) (dmn bs i) p 1 = 0)) (cnr bs i).length (fct bs i).length ∉ cel bs i k') ∧ v = iN k)
theorem BsM.tight {i : Nat} {Qv : Nat → Nat → Int} {p : pt4} (B : BsM h bs) (hi' : i < bs.length) (v : PlV h bs i Qv) (h1 : ∀ j, j < (fct bs i).length → ovZ (Qv j) (dmn bs i) p 1 ≤ 0) (h2 : ∃ j, j < (fct bs i).length ∧ ovZ (Qv j) (dmn bs i) p 1 = 0) : ∃ k, k < dmn bs i ∧ comS (fct bs i) (fun j => decide (ovZ (Qv j) (dmn bs i) p 1 = 0)) (cnr bs i).length (fct bs i).length ∈ cel bs i k := by
  have hl : (cnr bs i).length = ncr (bs.getD i b0).1 (bs.getD i b0).2.1 := crn_len _ _
  rw [hl]
  exact tight_cell (B.2.2 i hi').1 (B.2.2 i hi').2.1 (fun j hj => (v j hj).1) h1 h2
theorem mask_all {n : Nat} : 2 ^ n - 1 = mask (fun _ => true) n := mask_eq (Nat.sub_lt (Nat.two_pow_pos n) Nat.one_pos) fun k hk => by rw [Nat.testBit_two_pow_sub_one, decide_eq_true hk]
theorem mask_and {f : Nat → Bool} {n x : Nat} : mask f n &&& x = mask (fun c => f c && x.testBit c) n := by
  refine Nat.eq_of_testBit_eq fun k => ?_
  rw [Nat.testBit_and, mask_bit, mask_bit, Bool.and_assoc]
theorem comS_step {es : List Nat} {Z : Nat → Bool} {n m : Nat} : comS es Z n (m + 1) = if Z m = true then comS es Z n m &&& es.getD m 0 else comS es Z n m := by
  unfold comS
  by_cases q : Z m = true
  · rw [if_pos q, mask_and]
    exact mask_ext fun c _ => by rw [allN, q]; rfl
  · rw [if_neg q]
    exact mask_ext fun c _ => by rw [allN, show Z m = false by cases e : Z m with | false => rfl | true => exact absurd e q, Bool.not_false, Bool.true_or, Bool.and_true]
set_option maxRecDepth 100000 in
set_option maxHeartbeats 16000000 in
/-- the facets are gone through -/
theorem wh_loop {i : Nat} {p : pt4} {Qv : Nat → Nat → Int} (s : ShM h) (B : BsM h bs) (hi' : i < bs.length) (v : PlV h bs i Qv) (hp : smN8 p) : ∀ (w j : Nat) (x9 x10 : Option Value), j + w = (fct bs i).length → (∀ t, t < j → ovZ (Qv t) (dmn bs i) p 1 ≤ 0) →
    ((∃ t, t < (fct bs i).length ∧ 0 < ovZ (Qv t) (dmn bs i) p 1) ∧ ∀ R, qEv (d + 2) 0 qk_279 18 [some (.ref 55), some (.int (iN i)), some (.int (iZ p.1)), some (.int (iZ p.2.1)), some (.int (iZ p.2.2.1)), some (.int (iZ p.2.2.2)), some (.int (iN (comS (fct bs i) (fun j => decide (ovZ (Qv j) (dmn bs i) p 1 = 0)) (cnr bs i).length j))), some (.int (bB (anyN (fun j => decide (ovZ (Qv j) (dmn bs i) p 1 = 0)) j))), some (.int (iN j)), x9, x10] [] h R ↔ R = (some (.int (-1)), h)) ∨
    ((∀ t, t < (fct bs i).length → ovZ (Qv t) (dmn bs i) p 1 ≤ 0) ∧ ∃ y9 y10, ∀ R, qEv (d + 2) 0 qk_279 18 [some (.ref 55), some (.int (iN i)), some (.int (iZ p.1)), some (.int (iZ p.2.1)), some (.int (iZ p.2.2.1)), some (.int (iZ p.2.2.2)), some (.int (iN (comS (fct bs i) (fun j => decide (ovZ (Qv j) (dmn bs i) p 1 = 0)) (cnr bs i).length j))), some (.int (bB (anyN (fun j => decide (ovZ (Qv j) (dmn bs i) p 1 = 0)) j))), some (.int (iN j)), x9, x10] [] h R ↔ qEv (d + 2) 0 qk_279 101 [some (.ref 55), some (.int (iN i)), some (.int (iZ p.1)), some (.int (iZ p.2.1)), some (.int (iZ p.2.2.1)), some (.int (iZ p.2.2.2)), some (.int (iN (comS (fct bs i) (fun j => decide (ovZ (Qv j) (dmn bs i) p 1 = 0)) (cnr bs i).length (fct bs i).length))), some (.int (bB (anyN (fun j => decide (ovZ (Qv j) (dmn bs i) p 1 = 0)) (fct bs i).length))), some (.int (iN ((fct bs i).length))), y9, y10] [] h R) := by
  have b24 := B.1
  have ok := (B.2.2 i hi').1
  have fl := fct_l B hi'
  have pB : ptB p := fun k hk => by have := hp k hk; unfold iB; omega
  have sf : ∀ R, qMC (d + 2) 197 [.ref 55, .int (iN i)] h R ↔ R = (some (.int (iN (fct bs i).length)), h) := fun R => s_facetsC s B hi'
  intro w
  induction w with
  | zero =>
    intro j x9 x10 hj hle
    have e : j = (fct bs i).length := by omega
    subst e
    refine Or.inr ⟨hle, x9, x10, fun R => ?_⟩
    rw [e279_18]
    simp (disch := first | assumption | omega) only [e279_0, e279_1, e279_2, e279_5, e279_6, e279_7, e279_8, e279_9, e279_10, e279_12, e279_13, e279_15, e279_16, e279_20, e279_21, e279_22, e279_25, e279_28, e279_29, e279_30, e279_32, e279_33, e279_34, e279_36, e279_38, e279_39, e279_42, e279_44, e279_46, e279_47, e279_48, e279_51, e279_52, e279_53, e279_55, e279_58, e279_60, e279_61, e279_62, e279_65, e279_66, e279_69, e279_70, e279_72, e279_74, e279_76, e279_77, e279_78, e279_81, e279_82, e279_83, e279_85, e279_88, e279_91, e279_92, e279_93, e279_95, e279_98, e279_103, e279_106, e279_107, e279_110, e279_111, e279_112, e279_113, e279_114, e279_116, e279_118, e279_119, e279_122, e279_123, e279_124, e279_127, e279_128, e279_130, e279_132, e279_133, e279_134, e279_136, e279_139, e279_142, e279_143, e279_144, e279_146, e279_148, e279_151, e279_153, e279_156, e279_158, e279_159, e279_162, e279_165, e279_168, e279_171, e279_172, m279, ↓reduceIte, qg_0, qg_1, qg_2, qg_3, qg_4, qg_5, qg_6, qg_7, qg_8, qg_9, qg_10, qg_11, qg_12, qg_13, not_true_eq_false, not_false_eq_true, Nat.reduceBEq, Bool.false_eq_true, ex1, ex3, ex4, exF, qfit_i, qfit_l, qfit_r, qfit_n, qfit_b0, qfit_b1, qcat_i, qcat_r, qcat_n, qcat_l, qroom_0, qroom_c, List.map_cons, List.map_nil, List.sum_cons, List.sum_nil, Nat.reduceAdd, Nat.reduceMul, Nat.reduceLT, Nat.reduceLeDiff, Nat.reduceEqDiff, Nat.reduceSub, decide_true, true_and, and_true, and_self, if_true, if_false, Option.toList_some, Option.toList_none, List.cons_append, List.nil_append, qsL, qlong, List.length_cons, List.length_nil, iN_L, vM1, vM2, exI, iN_add, iN_mul, iN_le, iN_lt, iN_eq, Nat.le_refl, qfN0, qfN1, sf]
  | succ w ih =>
    intro j x9 x10 hj hle
    have hjl : j < (fct bs i).length := by omega
    have so : ∀ R, qMC (d + 2) 278 [.ref 55, .int (iN i), .int (iN j), .int (iZ p.1), .int (iZ p.2.1), .int (iZ p.2.2.1), .int (iZ p.2.2.2), .int (iN 1)] h R ↔ R = (some (.long (lZ (ovZ (Qv j) (dmn bs i) p (1 : Nat)))), h) := fun R => s_over (d := d + 1) s B hi' v hjl pB (by decide) R
    have bo : lB (ovZ (Qv j) (dmn bs i) p 1) := ovZ_b ok (v j hjl).1 hp (by decide)
    have fj : ∀ R, qMC (d + 2) 198 [.ref 55, .int (iN i), .int (iN j)] h R ↔ R = (some (.int (iN ((fct bs i).getD j 0))), h) := fun R => s_facetC s B hi' hjl
    obtain ⟨o, eo⟩ : ∃ o, o = ovZ (Qv j) (dmn bs i) p 1 := ⟨_, rfl⟩
    have so' : ∀ R, qMC (d + 2) 278 [.ref 55, .int (iN i), .int (iN j), .int (iZ p.1), .int (iZ p.2.1), .int (iZ p.2.2.1), .int (iZ p.2.2.2), .int (iN 1)] h R ↔ R = (some (.long (lZ o)), h) := fun R => by rw [so R, eo]; rfl
    rw [← eo] at bo
    have cs := comS_step (es := fct bs i) (Z := fun j => decide (ovZ (Qv j) (dmn bs i) p 1 = 0)) (n := (cnr bs i).length) (m := j)
    rw [← eo] at cs
    have an : anyN (fun j => decide (ovZ (Qv j) (dmn bs i) p 1 = 0)) (j + 1) = (anyN (fun j => decide (ovZ (Qv j) (dmn bs i) p 1 = 0)) j || decide (o = 0)) := by rw [anyN, ← eo]
    rcases Int.lt_trichotomy o 0 with q | q | q
    · have g1 : lZ o ≤ lZ 0 := by rw [lZ_le bo lB_0]; omega
      have g2 : ¬ lZ o = lZ 0 := by rw [lZ_eq bo lB_0]; omega
      rw [decide_eq_false (show ¬ o = 0 by omega), if_neg (by decide)] at cs
      rw [decide_eq_false (show ¬ o = 0 by omega), Bool.or_false] at an
      have st : ∀ R, qEv (d + 2) 0 qk_279 18 [some (.ref 55), some (.int (iN i)), some (.int (iZ p.1)), some (.int (iZ p.2.1)), some (.int (iZ p.2.2.1)), some (.int (iZ p.2.2.2)), some (.int (iN (comS (fct bs i) (fun j => decide (ovZ (Qv j) (dmn bs i) p 1 = 0)) (cnr bs i).length j))), some (.int (bB (anyN (fun j => decide (ovZ (Qv j) (dmn bs i) p 1 = 0)) j))), some (.int (iN j)), x9, x10] [] h R ↔ qEv (d + 2) 0 qk_279 18 [some (.ref 55), some (.int (iN i)), some (.int (iZ p.1)), some (.int (iZ p.2.1)), some (.int (iZ p.2.2.1)), some (.int (iZ p.2.2.2)), some (.int (iN (comS (fct bs i) (fun j => decide (ovZ (Qv j) (dmn bs i) p 1 = 0)) (cnr bs i).length (j + 1)))), some (.int (bB (anyN (fun j => decide (ovZ (Qv j) (dmn bs i) p 1 = 0)) (j + 1)))), some (.int (iN (j + 1))), some (.long (lZ o)), none] [] h R := by
        intro R
        rw [e279_18, cs, an]
        cases anyN (fun j => decide (ovZ (Qv j) (dmn bs i) p 1 = 0)) j with
        | true => simp (disch := first | assumption | omega) only [e279_0, e279_1, e279_2, e279_5, e279_6, e279_7, e279_8, e279_9, e279_10, e279_12, e279_13, e279_15, e279_16, e279_20, e279_21, e279_22, e279_25, e279_28, e279_29, e279_30, e279_32, e279_33, e279_34, e279_36, e279_38, e279_39, e279_42, e279_44, e279_46, e279_47, e279_48, e279_51, e279_52, e279_53, e279_55, e279_58, e279_60, e279_61, e279_62, e279_65, e279_66, e279_69, e279_70, e279_72, e279_74, e279_76, e279_77, e279_78, e279_81, e279_82, e279_83, e279_85, e279_88, e279_91, e279_92, e279_93, e279_95, e279_98, e279_103, e279_106, e279_107, e279_110, e279_111, e279_112, e279_113, e279_114, e279_116, e279_118, e279_119, e279_122, e279_123, e279_124, e279_127, e279_128, e279_130, e279_132, e279_133, e279_134, e279_136, e279_139, e279_142, e279_143, e279_144, e279_146, e279_148, e279_151, e279_153, e279_156, e279_158, e279_159, e279_162, e279_165, e279_168, e279_171, e279_172, m279, ↓reduceIte, qg_0, qg_1, qg_2, qg_3, qg_4, qg_5, qg_6, qg_7, qg_8, qg_9, qg_10, qg_11, qg_12, qg_13, not_true_eq_false, not_false_eq_true, Nat.reduceBEq, Bool.false_eq_true, ex1, ex3, ex4, exF, qfit_i, qfit_l, qfit_r, qfit_n, qfit_b0, qfit_b1, qcat_i, qcat_r, qcat_n, qcat_l, qroom_0, qroom_c, List.map_cons, List.map_nil, List.sum_cons, List.sum_nil, Nat.reduceAdd, Nat.reduceMul, Nat.reduceLT, Nat.reduceLeDiff, Nat.reduceEqDiff, Nat.reduceSub, decide_true, true_and, and_true, and_self, if_true, if_false, Option.toList_some, Option.toList_none, List.cons_append, List.nil_append, qsL, qlong, List.length_cons, List.length_nil, iN_L, vM1, vM2, exI, iN_add, iN_mul, iN_le, iN_lt, iN_eq, Nat.le_refl, qfN0, qfN1, sf, show ¬ (fct bs i).length ≤ j by omega, so', show (0 : Int64) = lZ 0 from rfl, lgN_le, lgN_eq, g1, g2, bB_t, iN10, and_m1]
        | false => simp (disch := first | assumption | omega) only [e279_0, e279_1, e279_2, e279_5, e279_6, e279_7, e279_8, e279_9, e279_10, e279_12, e279_13, e279_15, e279_16, e279_20, e279_21, e279_22, e279_25, e279_28, e279_29, e279_30, e279_32, e279_33, e279_34, e279_36, e279_38, e279_39, e279_42, e279_44, e279_46, e279_47, e279_48, e279_51, e279_52, e279_53, e279_55, e279_58, e279_60, e279_61, e279_62, e279_65, e279_66, e279_69, e279_70, e279_72, e279_74, e279_76, e279_77, e279_78, e279_81, e279_82, e279_83, e279_85, e279_88, e279_91, e279_92, e279_93, e279_95, e279_98, e279_103, e279_106, e279_107, e279_110, e279_111, e279_112, e279_113, e279_114, e279_116, e279_118, e279_119, e279_122, e279_123, e279_124, e279_127, e279_128, e279_130, e279_132, e279_133, e279_134, e279_136, e279_139, e279_142, e279_143, e279_144, e279_146, e279_148, e279_151, e279_153, e279_156, e279_158, e279_159, e279_162, e279_165, e279_168, e279_171, e279_172, m279, ↓reduceIte, qg_0, qg_1, qg_2, qg_3, qg_4, qg_5, qg_6, qg_7, qg_8, qg_9, qg_10, qg_11, qg_12, qg_13, not_true_eq_false, not_false_eq_true, Nat.reduceBEq, Bool.false_eq_true, ex1, ex3, ex4, exF, qfit_i, qfit_l, qfit_r, qfit_n, qfit_b0, qfit_b1, qcat_i, qcat_r, qcat_n, qcat_l, qroom_0, qroom_c, List.map_cons, List.map_nil, List.sum_cons, List.sum_nil, Nat.reduceAdd, Nat.reduceMul, Nat.reduceLT, Nat.reduceLeDiff, Nat.reduceEqDiff, Nat.reduceSub, decide_true, true_and, and_true, and_self, if_true, if_false, Option.toList_some, Option.toList_none, List.cons_append, List.nil_append, qsL, qlong, List.length_cons, List.length_nil, iN_L, vM1, vM2, exI, iN_add, iN_mul, iN_le, iN_lt, iN_eq, Nat.le_refl, qfN0, qfN1, sf, show ¬ (fct bs i).length ≤ j by omega, so', show (0 : Int64) = lZ 0 from rfl, lgN_le, lgN_eq, g1, g2, bB_f, and_m1]
      rcases ih (j + 1) (some (.long (lZ o))) none (by omega) (fun t ht => by
        by_cases e : t = j
        · rw [e, ← eo]; omega
        · exact hle t (by omega)) with ⟨a1, a2⟩ | ⟨a1, y9, y10, a2⟩
      · exact Or.inl ⟨a1, fun R => (st R).trans (a2 R)⟩
      · exact Or.inr ⟨a1, y9, y10, fun R => (st R).trans (a2 R)⟩
    · have g1 : lZ o ≤ lZ 0 := by rw [lZ_le bo lB_0]; omega
      have g2 : lZ o = lZ 0 := by rw [q]
      have g0 : lZ 0 ≤ lZ 0 := Int64.le_refl _
      rw [decide_eq_true q, if_pos rfl] at cs
      rw [decide_eq_true q, Bool.or_true] at an
      have st : ∀ R, qEv (d + 2) 0 qk_279 18 [some (.ref 55), some (.int (iN i)), some (.int (iZ p.1)), some (.int (iZ p.2.1)), some (.int (iZ p.2.2.1)), some (.int (iZ p.2.2.2)), some (.int (iN (comS (fct bs i) (fun j => decide (ovZ (Qv j) (dmn bs i) p 1 = 0)) (cnr bs i).length j))), some (.int (bB (anyN (fun j => decide (ovZ (Qv j) (dmn bs i) p 1 = 0)) j))), some (.int (iN j)), x9, x10] [] h R ↔ qEv (d + 2) 0 qk_279 18 [some (.ref 55), some (.int (iN i)), some (.int (iZ p.1)), some (.int (iZ p.2.1)), some (.int (iZ p.2.2.1)), some (.int (iZ p.2.2.2)), some (.int (iN (comS (fct bs i) (fun j => decide (ovZ (Qv j) (dmn bs i) p 1 = 0)) (cnr bs i).length (j + 1)))), some (.int (bB (anyN (fun j => decide (ovZ (Qv j) (dmn bs i) p 1 = 0)) (j + 1)))), some (.int (iN (j + 1))), some (.long (lZ o)), none] [] h R := by
        intro R
        rw [e279_18, cs, an]
        cases anyN (fun j => decide (ovZ (Qv j) (dmn bs i) p 1 = 0)) j with
        | true => simp (disch := first | assumption | omega) only [e279_0, e279_1, e279_2, e279_5, e279_6, e279_7, e279_8, e279_9, e279_10, e279_12, e279_13, e279_15, e279_16, e279_20, e279_21, e279_22, e279_25, e279_28, e279_29, e279_30, e279_32, e279_33, e279_34, e279_36, e279_38, e279_39, e279_42, e279_44, e279_46, e279_47, e279_48, e279_51, e279_52, e279_53, e279_55, e279_58, e279_60, e279_61, e279_62, e279_65, e279_66, e279_69, e279_70, e279_72, e279_74, e279_76, e279_77, e279_78, e279_81, e279_82, e279_83, e279_85, e279_88, e279_91, e279_92, e279_93, e279_95, e279_98, e279_103, e279_106, e279_107, e279_110, e279_111, e279_112, e279_113, e279_114, e279_116, e279_118, e279_119, e279_122, e279_123, e279_124, e279_127, e279_128, e279_130, e279_132, e279_133, e279_134, e279_136, e279_139, e279_142, e279_143, e279_144, e279_146, e279_148, e279_151, e279_153, e279_156, e279_158, e279_159, e279_162, e279_165, e279_168, e279_171, e279_172, m279, ↓reduceIte, qg_0, qg_1, qg_2, qg_3, qg_4, qg_5, qg_6, qg_7, qg_8, qg_9, qg_10, qg_11, qg_12, qg_13, not_true_eq_false, not_false_eq_true, Nat.reduceBEq, Bool.false_eq_true, ex1, ex3, ex4, exF, qfit_i, qfit_l, qfit_r, qfit_n, qfit_b0, qfit_b1, qcat_i, qcat_r, qcat_n, qcat_l, qroom_0, qroom_c, List.map_cons, List.map_nil, List.sum_cons, List.sum_nil, Nat.reduceAdd, Nat.reduceMul, Nat.reduceLT, Nat.reduceLeDiff, Nat.reduceEqDiff, Nat.reduceSub, decide_true, true_and, and_true, and_self, if_true, if_false, Option.toList_some, Option.toList_none, List.cons_append, List.nil_append, qsL, qlong, List.length_cons, List.length_nil, iN_L, vM1, vM2, exI, iN_add, iN_mul, iN_le, iN_lt, iN_eq, Nat.le_refl, qfN0, qfN1, sf, show ¬ (fct bs i).length ≤ j by omega, so', show (0 : Int64) = lZ 0 from rfl, lgN_le, lgN_eq, g0, g2, bB_t, iN10, fj, iN_and]
        | false => simp (disch := first | assumption | omega) only [e279_0, e279_1, e279_2, e279_5, e279_6, e279_7, e279_8, e279_9, e279_10, e279_12, e279_13, e279_15, e279_16, e279_20, e279_21, e279_22, e279_25, e279_28, e279_29, e279_30, e279_32, e279_33, e279_34, e279_36, e279_38, e279_39, e279_42, e279_44, e279_46, e279_47, e279_48, e279_51, e279_52, e279_53, e279_55, e279_58, e279_60, e279_61, e279_62, e279_65, e279_66, e279_69, e279_70, e279_72, e279_74, e279_76, e279_77, e279_78, e279_81, e279_82, e279_83, e279_85, e279_88, e279_91, e279_92, e279_93, e279_95, e279_98, e279_103, e279_106, e279_107, e279_110, e279_111, e279_112, e279_113, e279_114, e279_116, e279_118, e279_119, e279_122, e279_123, e279_124, e279_127, e279_128, e279_130, e279_132, e279_133, e279_134, e279_136, e279_139, e279_142, e279_143, e279_144, e279_146, e279_148, e279_151, e279_153, e279_156, e279_158, e279_159, e279_162, e279_165, e279_168, e279_171, e279_172, m279, ↓reduceIte, qg_0, qg_1, qg_2, qg_3, qg_4, qg_5, qg_6, qg_7, qg_8, qg_9, qg_10, qg_11, qg_12, qg_13, not_true_eq_false, not_false_eq_true, Nat.reduceBEq, Bool.false_eq_true, ex1, ex3, ex4, exF, qfit_i, qfit_l, qfit_r, qfit_n, qfit_b0, qfit_b1, qcat_i, qcat_r, qcat_n, qcat_l, qroom_0, qroom_c, List.map_cons, List.map_nil, List.sum_cons, List.sum_nil, Nat.reduceAdd, Nat.reduceMul, Nat.reduceLT, Nat.reduceLeDiff, Nat.reduceEqDiff, Nat.reduceSub, decide_true, true_and, and_true, and_self, if_true, if_false, Option.toList_some, Option.toList_none, List.cons_append, List.nil_append, qsL, qlong, List.length_cons, List.length_nil, iN_L, vM1, vM2, exI, iN_add, iN_mul, iN_le, iN_lt, iN_eq, Nat.le_refl, qfN0, qfN1, sf, show ¬ (fct bs i).length ≤ j by omega, so', show (0 : Int64) = lZ 0 from rfl, lgN_le, lgN_eq, g0, g2, bB_t, bB_f, fj, iN_and]
      rcases ih (j + 1) (some (.long (lZ o))) none (by omega) (fun t ht => by
        by_cases e : t = j
        · rw [e, ← eo]; omega
        · exact hle t (by omega)) with ⟨a1, a2⟩ | ⟨a1, y9, y10, a2⟩
      · exact Or.inl ⟨a1, fun R => (st R).trans (a2 R)⟩
      · exact Or.inr ⟨a1, y9, y10, fun R => (st R).trans (a2 R)⟩
    · have g1 : ¬ lZ o ≤ lZ 0 := by rw [lZ_le bo lB_0]; omega
      refine Or.inl ⟨⟨j, hjl, by rw [← eo]; exact q⟩, fun R => ?_⟩
      rw [e279_18]
      simp (disch := first | assumption | omega) only [e279_0, e279_1, e279_2, e279_5, e279_6, e279_7, e279_8, e279_9, e279_10, e279_12, e279_13, e279_15, e279_16, e279_20, e279_21, e279_22, e279_25, e279_28, e279_29, e279_30, e279_32, e279_33, e279_34, e279_36, e279_38, e279_39, e279_42, e279_44, e279_46, e279_47, e279_48, e279_51, e279_52, e279_53, e279_55, e279_58, e279_60, e279_61, e279_62, e279_65, e279_66, e279_69, e279_70, e279_72, e279_74, e279_76, e279_77, e279_78, e279_81, e279_82, e279_83, e279_85, e279_88, e279_91, e279_92, e279_93, e279_95, e279_98, e279_103, e279_106, e279_107, e279_110, e279_111, e279_112, e279_113, e279_114, e279_116, e279_118, e279_119, e279_122, e279_123, e279_124, e279_127, e279_128, e279_130, e279_132, e279_133, e279_134, e279_136, e279_139, e279_142, e279_143, e279_144, e279_146, e279_148, e279_151, e279_153, e279_156, e279_158, e279_159, e279_162, e279_165, e279_168, e279_171, e279_172, m279, ↓reduceIte, qg_0, qg_1, qg_2, qg_3, qg_4, qg_5, qg_6, qg_7, qg_8, qg_9, qg_10, qg_11, qg_12, qg_13, not_true_eq_false, not_false_eq_true, Nat.reduceBEq, Bool.false_eq_true, ex1, ex3, ex4, exF, qfit_i, qfit_l, qfit_r, qfit_n, qfit_b0, qfit_b1, qcat_i, qcat_r, qcat_n, qcat_l, qroom_0, qroom_c, List.map_cons, List.map_nil, List.sum_cons, List.sum_nil, Nat.reduceAdd, Nat.reduceMul, Nat.reduceLT, Nat.reduceLeDiff, Nat.reduceEqDiff, Nat.reduceSub, decide_true, true_and, and_true, and_self, if_true, if_false, Option.toList_some, Option.toList_none, List.cons_append, List.nil_append, qsL, qlong, List.length_cons, List.length_nil, iN_L, vM1, vM2, exI, iN_add, iN_mul, iN_le, iN_lt, iN_eq, Nat.le_refl, qfN0, qfN1, sf, show ¬ (fct bs i).length ≤ j by omega, so', show (0 : Int64) = lZ 0 from rfl, lgN_le, g1]
end WHERE
