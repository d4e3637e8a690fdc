/-! ===== PURE: the cells of a body as lists ===== -/
section CLSP
variable {l : List pt4} {D m : Nat} {S : Nat → Nat} {G : Nat → Nat → Int}
theorem pickN_srt (p : Nat → Bool) : ∀ n, (pickN p n).Pairwise (· < ·)
  | 0 => List.Pairwise.nil
  | n + 1 => by
    rw [pickN]
    split
    · rw [List.pairwise_append]
      exact ⟨pickN_srt p n, List.pairwise_singleton _ _, fun a ha b hb => by rw [List.mem_singleton.mp hb]; exact (pickN_mem.mp ha).1⟩
    · exact pickN_srt p n
theorem bdG.cl_sub (b : bdG l D m S G) {K x : Nat} (h : isCl l D K x) : ∃ j, j < m ∧ ∀ c, x.testBit c = true → (fcs l D S j).testBit c = true := by
  rcases h with ⟨-, h⟩ | ⟨-, h, -⟩
  · obtain ⟨j, hj, rfl⟩ := b.fcI.mp h
    exact ⟨j, hj, fun c hc => hc⟩
  · obtain ⟨x', hx, hs⟩ := h.2.1
    obtain ⟨j, hj, rfl⟩ := b.fcI.mp hx
    exact ⟨j, hj, sub_iff.mp hs⟩
theorem bdG.cl_bit (b : bdG l D m S G) {K x c : Nat} (h : isCl l D K x) (hc : x.testBit c = true) : c < ncr l D := by
  obtain ⟨j, hj, hs⟩ := b.cl_sub h
  exact ((b.bit hj).mp (hs c hc)).1
theorem bdG.cl_lt (b : bdG l D m S G) {K x : Nat} (h : isCl l D K x) : x < 2 ^ ncr l D := Nat.lt_pow_two_of_testBit _ fun j hj => by
  cases q : x.testBit j with
  | false => rfl
  | true => have := b.cl_bit h q; omega
theorem bdG.cl_16 (b : bdG l D m S G) {K x : Nat} (h : isCl l D K x) : x < 65536 := Nat.lt_of_lt_of_le (b.cl_lt h) (Nat.pow_le_pow_right (show 0 < 2 by decide) b.n16)
theorem bdG.cl_0 (b : bdG l D m S G) (hD : 2 ≤ D) {K x : Nat} (h : isCl l D K x) : 0 < x := by
  rcases h with ⟨-, h⟩ | ⟨-, h, -⟩
  · obtain ⟨j, hj, rfl⟩ := b.fcI.mp h
    exact Nat.pos_of_ne_zero (fcs_0 b.2.1 hD hj)
  · exact Nat.pos_of_ne_zero h.1
theorem bdG.cls_mem (b : bdG l D m S G) {K x : Nat} : x ∈ cls l D K ↔ isCl l D K x := by
  show x ∈ pickN (fun x => tB (isCl l D K x)) 65536 ↔ _
  rw [pickN_mem, tB_iff]
  exact ⟨fun h => h.2, fun h => ⟨b.cl_16 h, h⟩⟩
theorem cls_srt (K : Nat) : (cls l D K).Pairwise (· < ·) := pickN_srt _ _
theorem bdG.cls_eq (b : bdG l D m S G) {K : Nat} {L : List Nat} (h1 : L.Pairwise (· < ·)) (h2 : ∀ x, x ∈ L ↔ isCl l D K x) : cls l D K = L := srtL_ext (cls_srt K) h1 fun x => b.cls_mem.trans (h2 x).symm
theorem bdG.cls_hi (b : bdG l D m S G) (hD : 2 ≤ D) {K : Nat} (hK : D ≤ K) : cls l D K = [] := b.cls_eq List.Pairwise.nil fun x => ⟨fun z => (by cases z), fun z => by
  rcases z with ⟨e, -⟩ | ⟨e, -⟩ <;> omega⟩
theorem bdG.mt (b : bdG l D m S G) {x : Nat} : mtF l D m S x ↔ MeetP (isFc l D) x := by
  unfold mtF MeetP
  refine and_congr_right fun _ => ?_
  constructor
  · rintro ⟨⟨a, ha, sa⟩, hall⟩
    refine ⟨⟨_, b.fcI.mpr ⟨a, ha, rfl⟩, sub_iff.mpr sa⟩, fun c hc h => hall c hc fun a' ha' sa' => h _ (b.fcI.mpr ⟨a', ha', rfl⟩) (sub_iff.mpr sa')⟩
  · rintro ⟨⟨y, hy, sy⟩, hall⟩
    obtain ⟨a, ha, rfl⟩ := b.fcI.mp hy
    refine ⟨⟨a, ha, sub_iff.mp sy⟩, fun c hc h => hall c hc fun y' hy' sy' => ?_⟩
    obtain ⟨a', ha', rfl⟩ := b.fcI.mp hy'
    exact h a' ha' (sub_iff.mp sy')
theorem srt_list {L : List Nat} (h : L.Pairwise (· < ·)) : srt (fun k => L.getD k 0) L.length := by
  intro a b hab hb
  have e : ∀ k (hk : k < L.length), L.getD k 0 = L[k] := fun k hk => by rw [List.getD_eq_getElem?_getD, List.getElem?_eq_getElem hk]; rfl
  show L.getD a 0 < L.getD b 0
  rw [e a (by omega), e b hb]
  exact List.pairwise_iff_getElem.mp h a b (by omega) hb hab
theorem getD_mem0 {L : List Nat} {k : Nat} (hk : k < L.length) : L.getD k 0 ∈ L := by
  rw [List.getD_eq_getElem?_getD, List.getElem?_eq_getElem hk]; exact List.getElem_mem hk
theorem mem_getD0 {L : List Nat} {x : Nat} (h : x ∈ L) : ∃ k, k < L.length ∧ L.getD k 0 = x := by
  obtain ⟨k, hk, e⟩ := List.getElem_of_mem h
  exact ⟨k, hk, by rw [List.getD_eq_getElem?_getD, List.getElem?_eq_getElem hk]; exact e⟩
/-- sorted rows that are as many -/
theorem srt_inj {T : Nat → Nat} {n : Nat} (h : srt T n) {a b : Nat} (ha : a < n) (hb : b < n) (e : T a = T b) : a = b := by
  rcases Nat.lt_trichotomy a b with z | z | z
  · have := h a b z hb; omega
  · exact z
  · have := h b a z ha; omega
/-- no more different values than places -/
theorem inj_le {n m : Nat} {f : Nat → Nat} (h1 : ∀ a, a < n → f a < m) (h2 : ∀ a b, a < b → b < n → f a ≠ f b) : n ≤ m := by
  have e : cntN (fun _ => true) n = sumN (fun u => cntN (fun j => true && decide (f j = u)) n) m := cntN_fib (p := fun _ => true) (U := f) (n := m) (f := n) fun j hj _ => h1 j hj
  have t : ∀ n, cntN (fun _ => true) n = n := by
    intro n
    induction n with
    | zero => rfl
    | succ n ih => rw [cntN, ih]; rfl
  have le : sumN (fun u => cntN (fun j => true && decide (f j = u)) n) m ≤ sumN (fun _ => 1) m := sumN_le fun u _ => cntN_le1 fun a b hab hb z => by
    have z1 := of_decide_eq_true ((Bool.and_eq_true_iff.mp z.1).2)
    have z2 := of_decide_eq_true ((Bool.and_eq_true_iff.mp z.2).2)
    exact h2 a b hab hb (z1.trans z2.symm)
  rw [sumN_c] at le
  rw [t] at e
  omega
theorem bdG.cls_208 (ok : okP l D) (b : bdG l D m S G) (m104 : m ≤ 104) (K : Nat) : (cls l D K).length ≤ 208 := by
  have hD := ok.2.2.2.2
  have st := srt_list (cls_srt (l := l) (D := D) K)
  by_cases e : K = D - 1
  · have h1 : ∀ k, ∃ j, k < (cls l D K).length → j < m ∧ (cls l D K).getD k 0 = fcs l D S j := fun k => by
      by_cases hk : k < (cls l D K).length
      · rcases b.cls_mem.mp (getD_mem0 hk) with ⟨-, h⟩ | ⟨h, -⟩
        · obtain ⟨j, hj, e⟩ := b.fcI.mp h
          exact ⟨j, fun _ => ⟨hj, e⟩⟩
        · omega
      · exact ⟨0, fun z => absurd z hk⟩
    obtain ⟨f, hf⟩ := Classical.axiomOfChoice h1
    have := inj_le (n := (cls l D K).length) (m := m) (f := f) (fun a ha => (hf a ha).1) fun a b' hab hb z => by
      have h1 := (hf a (by omega)).2
      have h2 := (hf b' hb).2
      rw [z, ← h2] at h1
      have := st a b' hab hb
      have h3 : (cls l D K).getD a 0 < (cls l D K).getD b' 0 := this
      omega
    omega
  · by_cases e2 : D ≤ K
    · rw [b.cls_hi hD.1 e2]; exact Nat.zero_le _
    · refine mt_208 b.2.1 hD (K := K) st fun k hk => ?_
      rcases b.cls_mem.mp (getD_mem0 hk) with ⟨h, -⟩ | ⟨-, h2, h3, h4⟩
      · omega
      · exact ⟨b.mt.mpr h2, fun a ha z => h3 (b.fcI.mpr ⟨a, ha, z⟩), h4⟩
theorem pow_pop {c : Nat} (hc : c < 16) : pop (2 ^ c) 16 = 1 ∧ pop (2 ^ c) 24 = 1 := by
  have h := (by decide +kernel : ∀ c, c < 16 → pop (2 ^ c) 16 = 1 ∧ pop (2 ^ c) 24 = 1)
  exact h c hc
/-- a corner is a meet -/
theorem bdG.single (ok : okP l D) (b : bdG l D m S G) {c : Nat} (hc : c < ncr l D) : MeetP (isFc l D) (2 ^ c) := by
  obtain ⟨-, φ, p1, p2, p3⟩ := b.P.2.2 c hc
  refine b.meet ok p1 p2 (fun x => ?_) (by have := Nat.two_pow_pos c; omega)
  rw [Nat.testBit_two_pow, decide_eq_true_eq]
  constructor
  · rintro rfl; exact ⟨hc, (p3 c hc).mpr rfl⟩
  · rintro ⟨h1, h2⟩; exact ((p3 x h1).mp h2).symm
theorem bdG.cl0 (ok : okP l D) (b : bdG l D m S G) {x : Nat} : isCl l D 0 x ↔ ∃ c, c < ncr l D ∧ x = 2 ^ c := by
  have hD := ok.2.2.2.2
  have h16 := b.n16
  constructor
  · intro h
    have hx := b.cl_16 h
    have h0 := b.cl_0 hD.1 h
    have hb := fun c => b.cl_bit (c := c) h
    rcases h with ⟨e, -⟩ | ⟨-, -, -, hk⟩
    · omega
    · have p24 : pop x 24 = pop x 16 := pop_24 hx
      have pos := pop_p16 (x := x) (by omega) fun c hc => bit16 hx hc
      unfold kindOf at hk
      rw [p24] at hk
      have p1 : pop x 16 = 1 := by split at hk <;> omega
      obtain ⟨c, h1, h2⟩ := cntN_pos.mp pos
      refine ⟨c, hb c h2, Nat.eq_of_testBit_eq fun j => ?_⟩
      rw [Nat.testBit_two_pow, Bool.eq_iff_iff, decide_eq_true_eq]
      constructor
      · intro hj
        refine Classical.byContradiction fun z => ?_
        have : 2 ≤ cntN (fun k => x.testBit k) 16 := by
          have q1 : cntN (fun k => decide (k = c)) 16 < cntN (fun k => x.testBit k) 16 := cntN_ltq (fun k _ hk => by rw [of_decide_eq_true hk]; exact h2) ⟨j, bit16 hx hj, hj, fun w => z (of_decide_eq_true w).symm⟩
          have q2 : 0 < cntN (fun k => decide (k = c)) 16 := cntN_pos.mpr ⟨c, h1, decide_eq_true rfl⟩
          omega
        have : pop x 16 = cntN (fun k => x.testBit k) 16 := rfl
        omega
      · rintro rfl; exact h2
  · rintro ⟨c, hc, rfl⟩
    obtain ⟨q1, q2⟩ := pow_pop (show c < 16 by omega)
    refine Or.inr ⟨by omega, b.single ok hc, fun z => ?_, ?_⟩
    · obtain ⟨j, hj, e⟩ := b.fcI.mp z
      have := b.card hj
      rw [← e, q1] at this
      omega
    · unfold kindOf; rw [q2]; rfl
theorem bdG.cls0 (ok : okP l D) (b : bdG l D m S G) : cls l D 0 = (List.range (ncr l D)).map fun c => 2 ^ c := b.cls_eq (List.pairwise_map.mpr (List.Pairwise.imp (fun h => Nat.pow_lt_pow_right (by decide) h) List.pairwise_lt_range)) fun x => by
  rw [b.cl0 ok, List.mem_map]
  constructor
  · rintro ⟨c, h1, h2⟩; exact ⟨c, List.mem_range.mp h1, h2.symm⟩
  · rintro ⟨c, h1, h2⟩; exact ⟨c, List.mem_range.mpr h1, h2.symm⟩
theorem pair_24 {a c : Nat} (ha : a < 16) (hc : c < 16) (h : a ≠ c) : pop (2 ^ a ||| 2 ^ c) 24 = 2 := by
  have h1 := pair_pop ha hc h
  have : pop (2 ^ a ||| 2 ^ c) 24 = pop (2 ^ a ||| 2 ^ c) 16 := cntN_cut (by decide) fun k h1 _ h3 => by have := pair_bit.mp h3; omega
  omega
/-- edges beyond the plane: pairs that are meets -/
theorem bdG.cl1 (ok : okP l D) (b : bdG l D m S G) (hD : 3 ≤ D) {y : Nat} : isCl l D 1 y ↔ ∃ a c, a < c ∧ c < ncr l D ∧ y = 2 ^ a ||| 2 ^ c ∧ MeetP (isFc l D) y := by
  have h16 := b.n16
  constructor
  · intro h
    obtain ⟨a, c, h1, h2, h3⟩ := b.edge2 ok h
    rcases h with ⟨e, -⟩ | ⟨-, h4, -⟩
    · omega
    · exact ⟨a, c, h1, h2, h3, h4⟩
  · rintro ⟨a, c, h1, h2, rfl, h4⟩
    refine Or.inr ⟨by omega, h4, fun z => ?_, ?_⟩
    · obtain ⟨j, hj, e⟩ := b.fcI.mp z
      have := b.card hj
      rw [← e, pair_pop (show a < 16 by omega) (show c < 16 by omega) (by omega)] at this
      omega
    · unfold kindOf
      rw [pair_24 (show a < 16 by omega) (show c < 16 by omega) (by omega)]; rfl
theorem pop_and_16 {x y : Nat} (hx : x < 65536) : pop (x &&& y) 24 = pop (x &&& y) 16 := pop_24 (Nat.lt_of_le_of_lt Nat.and_le_left hx)
/-- ridges in four dimensions: what two facets have in common, three corners at least -/
theorem bdG.cl2 (b : bdG l 4 m S G) {y : Nat} : isCl l 4 2 y ↔ ∃ f g, f < m ∧ g < m ∧ f ≠ g ∧ y = fcs l 4 S f &&& fcs l 4 S g ∧ 3 ≤ pop y 24 := by
  have f16 : ∀ a, a < m → fcs l 4 S a < 65536 := fun a ha => b.cl_16 (K := 3) (Or.inl ⟨rfl, b.fcI.mpr ⟨a, ha, rfl⟩⟩)
  constructor
  · intro h
    have hx := b.cl_16 h
    rcases h with ⟨e, -⟩ | ⟨-, h1, h2, h3⟩
    · omega
    · have mt := b.mt.mpr h1
      have p3 : 3 ≤ pop y 24 := by unfold kindOf at h3; split at h3 <;> omega
      obtain ⟨f, g, hf, hg, hfg, sf, sg⟩ := mt_two b.2.1 mt fun a ha z => h2 (b.fcI.mpr ⟨a, ha, z⟩)
      refine ⟨f, g, hf, hg, hfg, Nat.eq_of_testBit_eq fun c => ?_, p3⟩
      rw [Bool.eq_iff_iff, (mt_ridge b.2.1 mt (by rw [← pop_24 hx]; exact p3) hf hg hfg sf sg).2 c, Nat.testBit_and, Bool.and_eq_true]
  · rintro ⟨f, g, hf, hg, hfg, rfl, p3⟩
    have hx : fcs l 4 S f &&& fcs l 4 S g < 65536 := Nat.lt_of_le_of_lt Nat.and_le_left (f16 f hf)
    have sf : subF l 4 S (fcs l 4 S f &&& fcs l 4 S g) f := fun c hc => by rw [Nat.testBit_and, Bool.and_eq_true] at hc; exact hc.1
    have sg : subF l 4 S (fcs l 4 S f &&& fcs l 4 S g) g := fun c hc => by rw [Nat.testBit_and, Bool.and_eq_true] at hc; exact hc.2
    refine Or.inr ⟨by omega, b.mt.mp ⟨fun z => ?_, ⟨f, hf, sf⟩, fun c _ hall => ?_⟩, fun z => ?_, ?_⟩
    · rw [z] at p3; exact absurd p3 (by decide)
    · rw [Nat.testBit_and, Bool.and_eq_true]; exact ⟨hall f hf sf, hall g hg sg⟩
    · obtain ⟨j, hj, e⟩ := b.fcI.mp z
      have e1 := fcs_sub b.2.1 hj hf fun c hc => sf c (by rw [e]; exact hc)
      have e2 := fcs_sub b.2.1 hj hg fun c hc => sg c (by rw [e]; exact hc)
      exact hfg (e1.symm.trans e2)
    · unfold kindOf; rw [if_neg (by omega)]
theorem bdG.ridge_un (b : bdG l 4 m S G) {f g f' g' : Nat} (hf : f < m) (hg : g < m) (hfg : g < f) (hf' : f' < m) (hg' : g' < m) (hfg' : g' < f') (p3 : 3 ≤ pop (fcs l 4 S f &&& fcs l 4 S g) 24) (e : fcs l 4 S f &&& fcs l 4 S g = fcs l 4 S f' &&& fcs l 4 S g') : f = f' ∧ g = g' := by
  have sf : ∀ {x y}, subF l 4 S (fcs l 4 S x &&& fcs l 4 S y) x := fun c hc => by rw [Nat.testBit_and, Bool.and_eq_true] at hc; exact hc.1
  have sg : ∀ {x y}, subF l 4 S (fcs l 4 S x &&& fcs l 4 S y) y := fun c hc => by rw [Nat.testBit_and, Bool.and_eq_true] at hc; exact hc.2
  have hc : isCl l 4 2 (fcs l 4 S f &&& fcs l 4 S g) := b.cl2.mpr ⟨f, g, hf, hg, by omega, rfl, p3⟩
  have hx := b.cl_16 hc
  rcases hc with ⟨e, -⟩ | ⟨-, h1, -, -⟩
  · omega
  · have r := (mt_ridge b.2.1 (b.mt.mpr h1) (by rw [← pop_24 hx]; exact p3) hf hg (by omega) sf sg).1
    have r1 := r f' hf' (by rw [e]; exact sf)
    have r2 := r g' hg' (by rw [e]; exact sg)
    omega
/-- common to the sets that have all of x -/
def cmS (F : Nat → Nat) (x : Nat) : Nat → Option Nat
  | 0 => none
  | j + 1 => if wo x (F j) = 0 then some (match cmS F x j with | none => F j | some c => c &&& F j) else cmS F x j
def cmE : Option Nat → Int32
  | none => -iN 1
  | some c => iN c
theorem cmS_none {F : Nat → Nat} {x : Nat} : ∀ {j : Nat}, cmS F x j = none ↔ ∀ t, t < j → ¬ wo x (F t) = 0
  | 0 => ⟨fun _ t ht => absurd ht (Nat.not_lt_zero t), fun _ => rfl⟩
  | j + 1 => by
    rw [cmS]
    by_cases h : wo x (F j) = 0
    · rw [if_pos h]
      exact ⟨fun z => (by cases z), fun z => absurd h (z j (by omega))⟩
    · rw [if_neg h, cmS_none]
      constructor
      · intro z t ht
        rcases Nat.lt_or_ge t j with q | q
        · exact z t q
        · rw [show t = j by omega]; exact h
      · exact fun z t ht => z t (by omega)
theorem cmS_bit {F : Nat → Nat} {x c b : Nat} : ∀ {j : Nat}, cmS F x j = some c → (c.testBit b = true ↔ ∀ t, t < j → wo x (F t) = 0 → (F t).testBit b = true)
  | 0, h => by cases h
  | j + 1, h => by
    rw [cmS] at h
    by_cases hx : wo x (F j) = 0
    · rw [if_pos hx] at h
      cases q : cmS F x j with
      | none =>
        rw [q] at h
        have e : F j = c := Option.some.inj h
        rw [← e]
        have no := cmS_none.mp q
        constructor
        · intro z t ht hw
          rcases Nat.lt_or_ge t j with y | y
          · exact absurd hw (no t y)
          · rw [show t = j by omega]; exact z
        · exact fun z => z j (by omega) hx
      | some c' =>
        rw [q] at h
        have e : c' &&& F j = c := Option.some.inj h
        rw [← e, Nat.testBit_and, Bool.and_eq_true, cmS_bit q]
        constructor
        · intro z t ht hw
          rcases Nat.lt_or_ge t j with y | y
          · exact z.1 t y hw
          · rw [show t = j by omega]; exact z.2
        · exact fun z => ⟨fun t ht => z t (by omega), z j (by omega) hx⟩
    · rw [if_neg hx] at h
      rw [cmS_bit h]
      constructor
      · intro z t ht hw
        rcases Nat.lt_or_ge t j with y | y
        · exact z t y hw
        · rw [show t = j by omega] at hw; exact absurd hw hx
      · exact fun z t ht => z t (by omega)
theorem cmS_lt {F : Nat → Nat} {x c j : Nat} (hF : ∀ t, t < j → F t < 65536) (h : cmS F x j = some c) : c < 65536 := by
  refine Nat.lt_pow_two_of_testBit (n := 16) _ fun b hb => ?_
  cases q : c.testBit b with
  | false => rfl
  | true =>
    have h1 := (cmS_bit (b := b) h).mp q
    have : ∃ t, t < j ∧ wo x (F t) = 0 := Classical.byContradiction fun z => by
      rw [cmS_none.mpr fun t ht hw => z ⟨t, ht, hw⟩] at h; cases h
    obtain ⟨t, ht, hw⟩ := this
    have := bit16 (hF t ht) (h1 t ht hw)
    omega
/-- what is left cannot change any more -/
theorem cmS_stay {F : Nat → Nat} {x : Nat} : ∀ {j m : Nat}, cmS F x j = some x → j ≤ m → cmS F x m = some x
  | j, 0, h, hm => by rw [show j = 0 by omega] at h; exact h
  | j, m + 1, h, hm => by
    rcases Nat.lt_or_ge m j with z | z
    · rw [show m + 1 = j by omega]; exact h
    · have ih := cmS_stay h z
      rw [cmS, ih]
      by_cases hx : wo x (F m) = 0
      · rw [if_pos hx]
        show some (x &&& F m) = some x
        rw [sub_iff.mpr (wo_0i.mp hx)]
      · rw [if_neg hx]
theorem cmS_iff {F : Nat → Nat} {x m : Nat} : cmS F x m = some x ↔ (∃ j, j < m ∧ wo x (F j) = 0) ∧ ∀ b, (∀ j, j < m → wo x (F j) = 0 → (F j).testBit b = true) → x.testBit b = true := by
  constructor
  · intro h
    refine ⟨Classical.byContradiction fun z => ?_, fun b hb => (cmS_bit h).mpr hb⟩
    rw [cmS_none.mpr fun t ht hw => z ⟨t, ht, hw⟩] at h; cases h
  · rintro ⟨⟨j, hj, hw⟩, hall⟩
    cases q : cmS F x m with
    | none => exact absurd hw (cmS_none.mp q j hj)
    | some c =>
      congr 1
      refine Nat.eq_of_testBit_eq fun b => ?_
      rw [Bool.eq_iff_iff, cmS_bit q]
      exact ⟨hall b, fun hx t ht hw => wo_0i.mp hw b hx⟩
end CLSP
