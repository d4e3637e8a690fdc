/-! ===== GEOMETRY: facets and their meets ===== -/
section GEO2
variable {l : List pt4} {D m : Nat} {S : Nat → Nat} {Q : Nat → Nat → Int}
/-- a facet's corners -/
noncomputable def fcs (l : List pt4) (D : Nat) (S : Nat → Nat) (a : Nat) : Nat := sqP l D (S a) l.length
/-- what is known of a body's facets: G their functionals -/
def fcG (l : List pt4) (D m : Nat) (S : Nat → Nat) (G : Nat → Nat → Int) : Prop := (gful (D + 1) l.length (vX l D) ∧ 2 ≤ l.length ∧ (∀ j, j < m → gfc (D + 1) l.length (vX l D) (G j) ∧ S j = zM l D (G j))) ∧ gP (D + 1) (ncr l D) (cX l D) ∧ fam (D + 1) (ncr l D) (cX l D) m G ∧ ncr l D ≤ 16
theorem fcG_of (ok : okP l D) (fl : FLs (lP l) l.length D m S Q) (hm : 0 < m) : ∃ G, fcG l D m S G := by
  obtain ⟨hF, h2, G, hG, fm⟩ := geo_fam ok fl hm
  exact ⟨G, ⟨hF, h2, hG⟩, geo_P ok hF h2, fm, Nat.le_trans ncr_le ok.2.2.1⟩
variable {G : Nat → Nat → Int}
theorem fcs_bit (g : fcG l D m S G) {a c : Nat} (ha : a < m) : (fcs l D S a).testBit c = true ↔ c < ncr l D ∧ dt (D + 1) (G a) (cX l D c) = 0 := by
  unfold fcs
  rw [(g.1.2.2 a ha).2, sqP_zM]
theorem fcs_16 (g : fcG l D m S G) {a c : Nat} (ha : a < m) (hc : (fcs l D S a).testBit c = true) : c < 16 := by
  have h1 := ((fcs_bit g ha).mp hc).1
  have h2 := g.2.2.2
  omega
theorem fcs_sub (g : fcG l D m S G) {a b : Nat} (ha : a < m) (hb : b < m) (h : ∀ c, (fcs l D S a).testBit c = true → (fcs l D S b).testBit c = true) : a = b := by
  refine Classical.byContradiction fun hne => g.2.2.1.2 a b ha hb hne fun c hc h0 => ?_
  exact ((fcs_bit g hb).mp (h c ((fcs_bit g ha).mpr ⟨hc, h0⟩))).2
theorem fcs_0 (g : fcG l D m S G) (hD : 2 ≤ D) {a : Nat} (ha : a < m) : fcs l D S a ≠ 0 := by
  intro e
  have hc := fct_card g.2.1.1 (g.2.2.1.1 a ha)
  obtain ⟨c, hc1, hc2⟩ := cntN_pos.mp (show 0 < cntN (fun p => decide (dt (D + 1) (G a) (cX l D p) = 0)) (ncr l D) by omega)
  have := (fcs_bit g ha).mpr ⟨hc1, of_decide_eq_true hc2⟩
  rw [e, Nat.zero_testBit] at this
  exact Bool.false_ne_true this
/-- x lies in facet a -/
def subF (l : List pt4) (D : Nat) (S : Nat → Nat) (x a : Nat) : Prop := ∀ c, x.testBit c = true → (fcs l D S a).testBit c = true
/-- a meet of facets -/
def mtF (l : List pt4) (D m : Nat) (S : Nat → Nat) (x : Nat) : Prop := x ≠ 0 ∧ (∃ a, a < m ∧ subF l D S x a) ∧ ∀ b, b < 16 → (∀ a, a < m → subF l D S x a → (fcs l D S a).testBit b = true) → x.testBit b = true
theorem mtF_of {F : Nat → Nat} (h1 : ∀ k, k < m → ∃ a, a < m ∧ F k = fcs l D S a) (h2 : ∀ a, a < m → ∃ k, k < m ∧ F k = fcs l D S a) {x : Nat} (hx : Meet F m x) : mtF l D m S x := by
  obtain ⟨h0, ⟨j, hj, ha⟩, hc⟩ := hx
  refine ⟨h0, ?_, fun b hb hall => ?_⟩
  · obtain ⟨a, ha1, ha2⟩ := h1 j hj
    exact ⟨a, ha1, fun c hc => by rw [← ha2]; exact around_iff.mp ha c hc⟩
  · rw [← hc, clo_bit]
    refine ⟨hb, fun k hk hk2 => ?_⟩
    obtain ⟨a, ha1, ha2⟩ := h1 k hk
    rw [ha2]
    exact hall a ha1 fun c hc => by rw [← ha2]; exact around_iff.mp hk2 c hc
/-- that is no facet lies in two -/
theorem mt_two (g : fcG l D m S G) {x : Nat} (hx : mtF l D m S x) (hn : ∀ a, a < m → x ≠ fcs l D S a) : ∃ a b, a < m ∧ b < m ∧ a ≠ b ∧ subF l D S x a ∧ subF l D S x b := by
  obtain ⟨-, ⟨a, ha, hs⟩, hc⟩ := hx
  refine Classical.byContradiction fun z => hn a ha ?_
  refine Nat.eq_of_testBit_eq fun c => ?_
  rw [Bool.eq_iff_iff]
  refine ⟨hs c, fun h => hc c (fcs_16 g ha h) fun b hb hs2 => ?_⟩
  have e : a = b := Classical.byContradiction fun w => z ⟨a, b, ha, hb, w, hs, hs2⟩
  rw [← e]; exact h
/-- three members of two facets, of three -/
theorem two_pr (g : fcG l D m S G) {r : Nat} {b : Nat → Nat → Int} (h : ind (D + 1) r b) (hs : D + 1 < r + 2) {i j : Nat} (hi' : i < m) (hj : j < m) (hij : i ≠ j) (h1 : ∀ t, t < r → dt (D + 1) (G i) (b t) = 0) (h2 : ∀ t, t < r → dt (D + 1) (G j) (b t) = 0) : False := by
  have fm := g.2.2.1
  have n1 := sV_neg (fm.1 j hj).1.1 (fm.2 i j hi' hj hij)
  have n2 := sV_neg (fm.1 i hi').1.1 (fm.2 j i hj hi' (fun z => hij z.symm))
  exact part2 h hs h1 h2 (x1 := sV (D + 1) (ncr l D) (cX l D) (G i)) (x2 := sV (D + 1) (ncr l D) (cX l D) (G j)) sV_0 (by omega) (by omega)
theorem tw2 {N : Nat} {f x y : Nat → Int} (h1 : dt N f x = 0) (h2 : dt N f y = 0) : ∀ t, t < 2 → dt N f (t2 x y t) = 0 := by
  intro t ht
  match t, ht with
  | 0, _ => exact h1
  | 1, _ => exact h2
theorem tw3 {N : Nat} {f x y z : Nat → Int} (h1 : dt N f x = 0) (h2 : dt N f y = 0) (h3 : dt N f z = 0) : ∀ t, t < 3 → dt N f (t3 x y z t) = 0 := by
  intro t ht
  match t, ht with
  | 0, _ => exact h1
  | 1, _ => exact h2
  | 2, _ => exact h3
theorem pop_16 (g : fcG l D m S G) {x a : Nat} (ha : a < m) (hs : subF l D S x a) : pop x 24 = pop x 16 ∧ pop x 16 = cntN (fun c => x.testBit c) (ncr l D) := by
  have h16 := g.2.2.2
  constructor
  · exact cntN_cut (by decide) fun k h1 h2 h3 => by have := fcs_16 g ha (hs k h3); omega
  · exact cntN_cut h16 fun k h1 h2 h3 => by have := ((fcs_bit g ha).mp (hs k h3)).1; omega
theorem pop_p16 {x : Nat} (h0 : x ≠ 0) (hb : ∀ c, x.testBit c = true → c < 16) : 0 < pop x 16 := by
  refine Classical.byContradiction fun z => h0 (Nat.eq_of_testBit_eq fun c => ?_)
  rw [Nat.zero_testBit]
  cases hc : x.testBit c with
  | false => rfl
  | true => exact absurd (cntN_pos.mpr ⟨c, hb c hc, hc⟩) z
/-- two members, three members -/
theorem two_of {p : Nat → Bool} {n : Nat} (h : 2 ≤ cntN p n) : ∃ v u, v < n ∧ u < n ∧ v ≠ u ∧ p v = true ∧ p u = true := by
  obtain ⟨v, h1, h2⟩ := cntN_pos.mp (show 0 < cntN p n by omega)
  obtain ⟨u, h3, h4, h5⟩ := cntN_ex h v
  exact ⟨v, u, h1, h3, fun z => h5 z.symm, h2, h4⟩
theorem three_of {p : Nat → Bool} {n : Nat} (h : 3 ≤ cntN p n) : ∃ v u w, v < n ∧ u < n ∧ w < n ∧ v ≠ u ∧ v ≠ w ∧ u ≠ w ∧ p v = true ∧ p u = true ∧ p w = true := by
  obtain ⟨v, u, h1, h2, h3, h4, h5⟩ := two_of (show 2 ≤ cntN p n by omega)
  obtain ⟨w, w1, w2, w3, w4⟩ := cntN_ex2 h v u
  exact ⟨v, u, w, h1, h2, w1, h3, fun z => w3 z.symm, fun z => w4 z.symm, h4, h5, w2⟩
theorem mt_kind (g : fcG l D m S G) (hD : 2 ≤ D ∧ D ≤ 4) {x : Nat} (hx : mtF l D m S x) (hn : ∀ a, a < m → x ≠ fcs l D S a) : kindOf x < D - 1 := by
  obtain ⟨a, b, ha, hb, hab, sa, sb⟩ := mt_two g hx hn
  obtain ⟨e1, e2⟩ := pop_16 g ha sa
  have P := g.2.1
  unfold kindOf
  have h3 : D = 2 ∨ D = 3 ∨ D = 4 := by omega
  have za : ∀ {c}, x.testBit c = true → dt (D + 1) (G a) (cX l D c) = 0 := fun h => ((fcs_bit g ha).mp (sa _ h)).2
  have zb : ∀ {c}, x.testBit c = true → dt (D + 1) (G b) (cX l D c) = 0 := fun h => ((fcs_bit g hb).mp (sb _ h)).2
  rcases h3 with e | e | e
  · have : cntN (fun c => x.testBit c) (ncr l D) < 2 := by
      refine Classical.byContradiction fun z => ?_
      obtain ⟨v, u, h1, h2, h3, h4, h5⟩ := two_of (show 2 ≤ cntN (fun c => x.testBit c) (ncr l D) by omega)
      exact two_pr g (P.i2 h1 h2 h3) (by omega) ha hb hab (tw2 (za h4) (za h5)) (tw2 (zb h4) (zb h5))
    rw [if_pos (by omega)]; omega
  · have : cntN (fun c => x.testBit c) (ncr l D) < 3 := by
      refine Classical.byContradiction fun z => ?_
      obtain ⟨v, u, w, h1, h2, h3, h4, h5, h6, h7, h8, h9⟩ := three_of (show 3 ≤ cntN (fun c => x.testBit c) (ncr l D) by omega)
      exact two_pr g (P.i3 h1 h2 h3 h4 h5 h6) (by omega) ha hb hab (tw3 (za h7) (za h8) (za h9)) (tw3 (zb h7) (zb h8) (zb h9))
    rw [if_pos (by omega)]; omega
  · split <;> omega
/-- in four dimensions: a meet of three members or more lies in two facets alone, and is all that they have in common -/
theorem mt_ridge (g : fcG l 4 m S G) {x : Nat} (hx : mtF l 4 m S x) (h3 : 3 ≤ pop x 16) {a b : Nat} (ha : a < m) (hb : b < m) (hab : a ≠ b) (sa : subF l 4 S x a) (sb : subF l 4 S x b) : (∀ k, k < m → subF l 4 S x k → k = a ∨ k = b) ∧ ∀ c, x.testBit c = true ↔ (fcs l 4 S a).testBit c = true ∧ (fcs l 4 S b).testBit c = true := by
  obtain ⟨e1, e2⟩ := pop_16 g ha sa
  have P := g.2.1
  have only : ∀ k, k < m → subF l 4 S x k → k = a ∨ k = b := by
    intro k hk sk
    refine Classical.byContradiction fun hne => ?_
    obtain ⟨v, u, w, h1, h2, h3, h4, h5, h6, h7, h8, h9⟩ := three_of (show 3 ≤ cntN (fun c => x.testBit c) (ncr l 4) by omega)
    have z : ∀ {k c}, k < m → subF l 4 S x k → x.testBit c = true → dt 5 (G k) (cX l 4 c) = 0 := fun hk sk h => ((fcs_bit g hk).mp (sk _ h)).2
    exact g.2.2.1.tri (P.i3 h1 h2 h3 h4 h5 h6) (by decide) hk ha hb (fun w => hne (Or.inl w)) (fun w => hne (Or.inr w)) hab (tw3 (z hk sk h7) (z hk sk h8) (z hk sk h9)) (tw3 (z ha sa h7) (z ha sa h8) (z ha sa h9)) (tw3 (z hb sb h7) (z hb sb h8) (z hb sb h9))
  refine ⟨only, fun c => ⟨fun h => ⟨sa c h, sb c h⟩, fun h => ?_⟩⟩
  refine hx.2.2 c (fcs_16 g ha h.1) fun k hk sk => ?_
  rcases only k hk sk with e | e
  · rw [e]; exact h.1
  · rw [e]; exact h.2
theorem mt_208 (g : fcG l D m S G) (hD : 2 ≤ D ∧ D ≤ 4) {K L : Nat} {T : Nat → Nat} (st : srt T L) (hT : ∀ k, k < L → mtF l D m S (T k) ∧ (∀ a, a < m → T k ≠ fcs l D S a) ∧ kindOf (T k) = K) : L ≤ 208 := by
  rcases Nat.eq_zero_or_pos L with z | hL
  · omega
  · have fact : ∀ k, k < L → (∀ c, (T k).testBit c = true → c < 16) ∧ pop (T k) 24 = pop (T k) 16 ∧ 0 < pop (T k) 16 ∧ kindOf (T k) < D - 1 := by
      intro k hk
      obtain ⟨h1, h2, -⟩ := hT k hk
      obtain ⟨a, ha, sa⟩ := h1.2.1
      have hb : ∀ c, (T k).testBit c = true → c < 16 := fun c hc => fcs_16 g ha (sa c hc)
      exact ⟨hb, (pop_16 g ha sa).1, pop_p16 h1.1 hb, mt_kind g hD h1 h2⟩
    have kd : ∀ k, k < L → (if pop (T k) 16 < 3 then pop (T k) 16 - 1 else 2) = K := by
      intro k hk
      have h1 := (hT k hk).2.2
      unfold kindOf at h1
      rw [(fact k hk).2.1] at h1
      exact h1
    have hK : K < D - 1 := by have := (fact 0 hL).2.2.2; rw [(hT 0 hL).2.2] at this; exact this
    have hK3 : K = 0 ∨ K = 1 ∨ K = 2 := by omega
    rcases hK3 with e | e | e
    · have := few_1 st (fun k hk => (fact k hk).1) fun k hk => by
        have h1 := kd k hk
        have h2 := (fact k hk).2.2.1
        split at h1 <;> omega
      omega
    · have := few_2 st (fun k hk => (fact k hk).1) fun k hk => by
        have h1 := kd k hk
        have h2 := (fact k hk).2.2.1
        split at h1 <;> omega
      omega
    · have h3 : ∀ k, k < L → 3 ≤ pop (T k) 16 := fun k hk => by
        have h1 := kd k hk
        split at h1 <;> omega
      have eD : D = 4 := by omega
      subst eD
      have two : ∀ k, ∃ ab : Nat × Nat, k < L → ab.1 < m ∧ ab.2 < m ∧ ab.1 ≠ ab.2 ∧ ∀ c, (T k).testBit c = true ↔ (fcs l 4 S ab.1).testBit c = true ∧ (fcs l 4 S ab.2).testBit c = true := by
        intro k
        by_cases hk : k < L
        · obtain ⟨a, b, ha, hb, hab, sa, sb⟩ := mt_two g (hT k hk).1 (hT k hk).2.1
          exact ⟨(a, b), fun _ => ⟨ha, hb, hab, (mt_ridge g (hT k hk).1 (h3 k hk) ha hb hab sa sb).2⟩⟩
        · exact ⟨(0, 0), fun z => absurd z hk⟩
      obtain ⟨ab, hab⟩ := Classical.axiomOfChoice two
      have bit : ∀ k, k < L → ∀ c, c < ncr l 4 → (gIn 5 (cX l 4) G (ab k).1 c && gIn 5 (cX l 4) G (ab k).2 c) = (T k).testBit c := by
        intro k hk c hc
        obtain ⟨q1, q2, -, q4⟩ := hab k hk
        rw [Bool.eq_iff_iff, Bool.and_eq_true, gIn_iff, gIn_iff, q4, fcs_bit g q1, fcs_bit g q2]
        exact ⟨fun h => ⟨⟨hc, h.1⟩, hc, h.2⟩, fun h => ⟨h.1.2, h.2.2⟩⟩
      have sb : ∀ k, k < L → subF l 4 S (T k) (ab k).1 := fun k hk c hc => (((hab k hk).2.2.2 c).mp hc).1
      refine rdg208 (n := ncr l 4) (a := fun k => (ab k).1) (b := fun k => (ab k).2) g.2.1 g.2.2.2 g.2.2.1 ⟨fun k hk => ?_, fun k k' hk hk' hne => ?_⟩
      · obtain ⟨q1, q2, q3, q4⟩ := hab k hk
        refine ⟨q1, q2, q3, ?_⟩
        rw [cntN_ext (bit k hk), ← (pop_16 g q1 (sb k hk)).2]
        exact h3 k hk
      · refine Classical.byContradiction fun z => ?_
        have e : T k = T k' := Nat.eq_of_testBit_eq fun c => by
          by_cases hc : c < ncr l 4
          · rw [← bit k hk c hc, ← bit k' hk' c hc]
            exact Classical.byContradiction fun w => z ⟨c, hc, w⟩
          · have no : ∀ k, k < L → (T k).testBit c = false := fun k hk => by
              cases hb : (T k).testBit c with
              | false => rfl
              | true => exact absurd ((fcs_bit g (hab k hk).1).mp (sb k hk c hb)).1 hc
            rw [no k hk, no k' hk']
        rcases Nat.lt_or_gt_of_ne hne with w | w
        · have := st k k' w hk'; omega
        · have := st k' k w hk; omega
theorem geo_mk (ok : okP l D) (fl : facL l D m S Q) (hm : 0 < m) : mkG S l.length m D := by
  obtain ⟨G, g⟩ := fcG_of ok fl.1 hm
  have hD := ok.2.2.2.2
  have e : ∀ a, sqz S l.length m a l.length = fcs l D S a := fun a => sqz_sqP fl _ (Nat.le_refl _)
  refine ⟨geo_104 ok fl.1, fun a b h1 h2 => ?_, fun a ha => ?_, fun F h1 h2 => ⟨fun j k hj hk h3 => ?_, fun x hx hn => ?_, fun K L T st hT => ?_⟩⟩
  · rw [e, e]
    intro w
    have := fcs_sub g (show a < m by omega) h2 fun c hc => by rw [← w]; exact hc
    omega
  · rw [e]; exact fcs_0 g hD.1 ha
  · obtain ⟨a, ha, ea⟩ := h1 j hj
    obtain ⟨b, hb, eb⟩ := h1 k hk
    rw [e] at ea eb
    have : b = a := fcs_sub g hb ha fun c hc => by
      rw [← ea]
      rw [← eb] at hc
      exact sub_iff.mp h3 c hc
    rw [ea, eb, this]
  · have h1' : ∀ k, k < m → ∃ a, a < m ∧ F k = fcs l D S a := fun k hk => by obtain ⟨a, ha, ea⟩ := h1 k hk; exact ⟨a, ha, by rw [← e]; exact ea⟩
    have h2' : ∀ a, a < m → ∃ k, k < m ∧ F k = fcs l D S a := fun a ha => by obtain ⟨k, hk, ea⟩ := h2 a ha; exact ⟨k, hk, by rw [← e]; exact ea⟩
    refine mt_kind g hD (mtF_of h1' h2' hx) fun a ha w => ?_
    obtain ⟨k, hk, ek⟩ := h2' a ha
    exact hn k hk (w.trans ek.symm)
  · have h1' : ∀ k, k < m → ∃ a, a < m ∧ F k = fcs l D S a := fun k hk => by obtain ⟨a, ha, ea⟩ := h1 k hk; exact ⟨a, ha, by rw [← e]; exact ea⟩
    have h2' : ∀ a, a < m → ∃ k, k < m ∧ F k = fcs l D S a := fun a ha => by obtain ⟨k, hk, ea⟩ := h2 a ha; exact ⟨k, hk, by rw [← e]; exact ea⟩
    refine mt_208 g hD (K := K) st fun k hk => ?_
    obtain ⟨q1, q2, q3⟩ := hT k hk
    refine ⟨mtF_of h1' h2' q1, fun a ha w => ?_, q3⟩
    obtain ⟨k2, hk2, ek⟩ := h2' a ha
    exact q2 k2 hk2 (w.trans ek.symm)
/-- what the reference owes to geometry -/
theorem geo_all : geo := fun l D ok => ⟨fun f S Q fl => by have := geo_104 ok fl; omega, fun f S Q fl hf => geo_mk ok fl hf⟩
end GEO2
