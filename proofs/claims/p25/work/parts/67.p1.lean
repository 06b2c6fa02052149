/-! ===== steps: both sides alike; the sums; what is owed ===== -/
theorem upd_c {f g : Nat → Int32} {a j : Nat} {x y : Int32} (h : f j = g j) (e : x = y) : upd f a x j = upd g a y j := by
  show (if j = a then x else f j) = (if j = a then y else g j)
  rw [h, e]
theorem vp5 {k : Int32} (h : vp_in k 5) : ix k < 5 := Nat.not_le.mp (fun q => h (Or.inr q))
theorem vp5n {k : Int32} (h : vp_in k 5) : k = nI (ix k) ∧ 0 ≤ k.toInt ∧ k.toInt = ix k := by
  have h0 : ¬ k < 0 := fun q => h (Or.inl q)
  rw [lt_i, ti0] at h0
  have e : (ix k : Int) = k.toInt := ix_i (by omega)
  have := vp5 h
  exact ⟨i_eq (by rw [nI_toInt (by omega)]; omega), by omega, by omega⟩
theorem sim_g0 {S L : Sg} (h : Sim S L) {v w : Int32} (e : w = v) : Sim (zs S 1 v) (bs L 4 0 w) := by
  obtain ⟨hV, hA, ⟨g0, g1, g2, g3, g4, g5, g6, g7, g8, g9, g10, g11, g12, g13, g14, g15⟩, hL, hM⟩ := h
  exact ⟨hV, hA, ⟨e, g1, g2, g3, g4, g5, g6, g7, g8, g9, g10, g11, g12, g13, g14, g15⟩, hL, hM⟩
theorem sim_g1 {S L : Sg} (h : Sim S L) {v w : Int32} (e : w = v) : Sim (zs S 11 v) (bs L 4 1 w) := by
  obtain ⟨hV, hA, ⟨g0, g1, g2, g3, g4, g5, g6, g7, g8, g9, g10, g11, g12, g13, g14, g15⟩, hL, hM⟩ := h
  exact ⟨hV, hA, ⟨g0, e, g2, g3, g4, g5, g6, g7, g8, g9, g10, g11, g12, g13, g14, g15⟩, hL, hM⟩
theorem sim_g2 {S L : Sg} (h : Sim S L) {v w : Int32} (e : w = v) : Sim (zs S 12 v) (bs L 4 2 w) := by
  obtain ⟨hV, hA, ⟨g0, g1, g2, g3, g4, g5, g6, g7, g8, g9, g10, g11, g12, g13, g14, g15⟩, hL, hM⟩ := h
  exact ⟨hV, hA, ⟨g0, g1, e, g3, g4, g5, g6, g7, g8, g9, g10, g11, g12, g13, g14, g15⟩, hL, hM⟩
theorem sim_g3 {S L : Sg} (h : Sim S L) {v w : Int32} (e : w = v) : Sim (zs S 13 v) (bs L 4 3 w) := by
  obtain ⟨hV, hA, ⟨g0, g1, g2, g3, g4, g5, g6, g7, g8, g9, g10, g11, g12, g13, g14, g15⟩, hL, hM⟩ := h
  exact ⟨hV, hA, ⟨g0, g1, g2, e, g4, g5, g6, g7, g8, g9, g10, g11, g12, g13, g14, g15⟩, hL, hM⟩
theorem sim_g4 {S L : Sg} (h : Sim S L) {v w : Int32} (e : w = v) : Sim (zs S 14 v) (bs L 4 4 w) := by
  obtain ⟨hV, hA, ⟨g0, g1, g2, g3, g4, g5, g6, g7, g8, g9, g10, g11, g12, g13, g14, g15⟩, hL, hM⟩ := h
  exact ⟨hV, hA, ⟨g0, g1, g2, g3, e, g5, g6, g7, g8, g9, g10, g11, g12, g13, g14, g15⟩, hL, hM⟩
theorem sim_g5 {S L : Sg} (h : Sim S L) {v w : Int32} (e : w = v) : Sim (zs S 15 v) (bs L 4 5 w) := by
  obtain ⟨hV, hA, ⟨g0, g1, g2, g3, g4, g5, g6, g7, g8, g9, g10, g11, g12, g13, g14, g15⟩, hL, hM⟩ := h
  exact ⟨hV, hA, ⟨g0, g1, g2, g3, g4, e, g6, g7, g8, g9, g10, g11, g12, g13, g14, g15⟩, hL, hM⟩
theorem sim_g6 {S L : Sg} (h : Sim S L) {v w : Int32} (e : w = v) : Sim (zs S 16 v) (bs L 4 6 w) := by
  obtain ⟨hV, hA, ⟨g0, g1, g2, g3, g4, g5, g6, g7, g8, g9, g10, g11, g12, g13, g14, g15⟩, hL, hM⟩ := h
  exact ⟨hV, hA, ⟨g0, g1, g2, g3, g4, g5, e, g7, g8, g9, g10, g11, g12, g13, g14, g15⟩, hL, hM⟩
theorem sim_g7 {S L : Sg} (h : Sim S L) {v w : Int32} (e : w = v) : Sim (zs S 17 v) (bs L 4 7 w) := by
  obtain ⟨hV, hA, ⟨g0, g1, g2, g3, g4, g5, g6, g7, g8, g9, g10, g11, g12, g13, g14, g15⟩, hL, hM⟩ := h
  exact ⟨hV, hA, ⟨g0, g1, g2, g3, g4, g5, g6, e, g8, g9, g10, g11, g12, g13, g14, g15⟩, hL, hM⟩
theorem sim_g8 {S L : Sg} (h : Sim S L) {v w : Int32} (e : w = v) : Sim (zs S 21 v) (bs L 4 8 w) := by
  obtain ⟨hV, hA, ⟨g0, g1, g2, g3, g4, g5, g6, g7, g8, g9, g10, g11, g12, g13, g14, g15⟩, hL, hM⟩ := h
  exact ⟨hV, hA, ⟨g0, g1, g2, g3, g4, g5, g6, g7, e, g9, g10, g11, g12, g13, g14, g15⟩, hL, hM⟩
theorem sim_g11 {S L : Sg} (h : Sim S L) {v w : Int32} (e : w = v) : Sim (bs S 10 0 v) (bs L 4 11 w) := by
  obtain ⟨hV, hA, ⟨g0, g1, g2, g3, g4, g5, g6, g7, g8, g9, g10, g11, g12, g13, g14, g15⟩, hL, hM⟩ := h
  exact ⟨hV, hA, ⟨g0, g1, g2, g3, g4, g5, g6, g7, g8, g9, g10, e, g12, g13, g14, g15⟩, hL, hM⟩
theorem sim_g12 {S L : Sg} (h : Sim S L) {v w : Int32} (e : w = v) : Sim (bs S 10 4 v) (bs L 4 12 w) := by
  obtain ⟨hV, hA, ⟨g0, g1, g2, g3, g4, g5, g6, g7, g8, g9, g10, g11, g12, g13, g14, g15⟩, hL, hM⟩ := h
  exact ⟨hV, hA, ⟨g0, g1, g2, g3, g4, g5, g6, g7, g8, g9, g10, g11, e, g13, g14, g15⟩, hL, hM⟩
theorem sim_g13 {S L : Sg} (h : Sim S L) {v w : Int32} (e : w = v) : Sim (bs S 10 5 v) (bs L 4 13 w) := by
  obtain ⟨hV, hA, ⟨g0, g1, g2, g3, g4, g5, g6, g7, g8, g9, g10, g11, g12, g13, g14, g15⟩, hL, hM⟩ := h
  exact ⟨hV, hA, ⟨g0, g1, g2, g3, g4, g5, g6, g7, g8, g9, g10, g11, g12, e, g14, g15⟩, hL, hM⟩
theorem sim_g14 {S L : Sg} (h : Sim S L) {v w : Int32} (e : w = v) : Sim (bs S 10 6 v) (bs L 4 14 w) := by
  obtain ⟨hV, hA, ⟨g0, g1, g2, g3, g4, g5, g6, g7, g8, g9, g10, g11, g12, g13, g14, g15⟩, hL, hM⟩ := h
  exact ⟨hV, hA, ⟨g0, g1, g2, g3, g4, g5, g6, g7, g8, g9, g10, g11, g12, g13, e, g15⟩, hL, hM⟩
theorem sim_g15 {S L : Sg} (h : Sim S L) {v w : Int32} (e : w = v) : Sim (bs S 10 7 v) (bs L 4 15 w) := by
  obtain ⟨hV, hA, ⟨g0, g1, g2, g3, g4, g5, g6, g7, g8, g9, g10, g11, g12, g13, g14, g15⟩, hL, hM⟩ := h
  exact ⟨hV, hA, ⟨g0, g1, g2, g3, g4, g5, g6, g7, g8, g9, g10, g11, g12, g13, g14, e⟩, hL, hM⟩
theorem sim_z8 {S L : Sg} (h : Sim S L) (v : Int32) : Sim (zs S 8 v) L := h
theorem sim_z9 {S L : Sg} (h : Sim S L) (v : Int32) : Sim (zs S 9 v) L := h
theorem sim_a {S L : Sg} (h : Sim S L) (i : Nat) (v : Int32) : Sim (bs S 7 i v) (bs L 3 i v) := by
  obtain ⟨hV, hA, hG, hL, hM⟩ := h
  exact ⟨hV, fun k hk => upd_c (hA k hk) rfl, hG, hL, hM⟩
theorem sim_v {S L : Sg} (h : Sim S L) (i : Nat) {v v' d d' : Int32} (ev : v = v') (ed : d = d') : Sim (bs (bs S 5 i v') 6 i d') (bs (bs L 1 i v) 2 i d) := by
  obtain ⟨hV, hA, hG, hL, hM⟩ := h
  exact ⟨fun k hk => by
    obtain ⟨a, b, c, e⟩ := hV k hk
    exact ⟨a, upd_c b ev, upd_c c ed, e⟩, hA, hG, hL, hM⟩
theorem sim_draw {S L : Sg} (h : Sim S L) {k : Int32} (hk : vp_in k 5) (p : Int32) : (z_draws L k p).1 = (m_takes S k p).1 ∧ Sim (m_takes S k p).2 (z_draws L k p).2 := by
  obtain ⟨a, b, c, e⟩ := h.1 _ (vp5 hk)
  have e1 : m_part (L.2 2 (ix k)) p (L.2 1 (ix k)) = m_part (S.2 6 (ix k)) p (S.2 5 (ix k)) := by rw [b, c]
  refine ⟨e1, ?_⟩
  have e2 : (m_takes S k p).2 = bs (bs S 5 (ix k) (S.2 5 (ix k) - p)) 6 (ix k) (S.2 6 (ix k) - m_part (S.2 6 (ix k)) p (S.2 5 (ix k))) := bs_comm S _ _ _ _ (by decide)
  rw [e2]
  exact sim_v h _ (by rw [b]) (by rw [c, b])
theorem zw_i {V D P Q : Int32} (hV : 0 ≤ V.toInt) (hV2 : V.toInt ≤ 9999) (hD : 0 ≤ D.toInt) (hD2 : D.toInt ≤ 960 * V.toInt) (hP : 0 ≤ P.toInt) (hP2 : P.toInt ≤ 9999) (hQ : 0 ≤ Q.toInt) (hQ2 : Q.toInt ≤ 960 * P.toInt) : (z_with V D P Q).toInt = mixI V D P Q := by
  rw [z_with, mixI]
  obtain ⟨a1, a2, -⟩ := str_b hD hV hD2
  obtain ⟨b1, b2, -⟩ := str_b hQ hP hQ2
  generalize m_strengthOf D V = s1 at *
  generalize m_strengthOf Q P = s2 at *
  have e1 : (s1 - s2).toInt = s1.toInt - s2.toInt := i_sub (by omega) (by omega)
  have e0 : (V + P).toInt = V.toInt + P.toInt := i_add (by omega) (by omega)
  have el : (if V ≤ P then V else P).toInt = min V.toInt P.toInt := by
    by_cases h : V ≤ P
    · rw [if_pos h]; rw [le_i] at h; omega
    · rw [if_neg h]; rw [le_i] at h; omega
  have mz : ∀ a : Int, min V.toInt P.toInt = 0 → min V.toInt P.toInt * a / 10000 = 0 := fun a h => by rw [h, Int.zero_mul]; rfl
  generalize (if V ≤ P then V else P) = y at *
  by_cases h1 : y = 0
  · rw [if_pos h1, mz _ (by rw [← el, h1, ti0]), show V + P - 0 = V + P by grind, e0]
    omega
  rw [if_neg h1]
  have key : ∀ x : Int32, x.toInt = ((s1.toInt - s2.toInt).natAbs : Int) → ((V + P) - (y * x) / 10000).toInt = V.toInt + P.toInt - min V.toInt P.toInt * ((s1.toInt - s2.toInt).natAbs : Int) / 10000 := by
    intro x hx
    obtain ⟨k1, k2, k3, k4⟩ := mix_k (m := y.toInt) (a := x.toInt) (by omega) (by omega) (by omega) (by omega)
    have e4 : (y * x).toInt = y.toInt * x.toInt := i_mul (by omega) (by omega)
    have e5 : (y * x / 10000).toInt = y.toInt * x.toInt / 10000 := by rw [i_div (by rw [e4]; exact k1) (by decide), e4, show (10000 : Int32).toInt = 10000 by decide]
    rw [i_sub (by rw [e0, e5]; omega) (by rw [e0, e5]; omega), e0, e5, ← hx, ← el]
  by_cases h3 : s1 - s2 ≤ 0
  · rw [if_pos h3]
    rw [le_i, e1, ti0] at h3
    have en : (-(s1 - s2)).toInt = -(s1.toInt - s2.toInt) := by
      rw [Int32.toInt_neg, e1]
      exact bm32 (by omega) (by omega)
    exact key _ (by rw [en]; omega)
  · rw [if_neg h3]
    rw [le_i, e1, ti0] at h3
    exact key _ (by rw [e1]; omega)
theorem sim_pour {S L : Sg} (h : Sim S L) {k : Int32} (hk : vp_in k 5) (hV : VI S (ix k)) {P Q : Int32} (hP : 0 ≤ P.toInt) (hP2 : P.toInt ≤ 9999) (hQ : 0 ≤ Q.toInt) (hQ2 : Q.toInt ≤ 960 * P.toInt) : Sim (m_comes S k P Q) (z_pours L k P Q).2 := by
  obtain ⟨a, b, c, e⟩ := h.1 _ (vp5 hk)
  obtain ⟨b1, b2, b3, b4, b5, -, -⟩ := hV
  have e1 : z_with (L.2 1 (ix k)) (L.2 2 (ix k)) P Q = m_with S k P Q := by
    rw [b, c]
    exact i_eq ((zw_i b1 (by omega) b4 b5 hP hP2 hQ hQ2).trans (mw_i b1 (by omega) b4 b5 hP hP2 hQ hQ2).symm)
  exact sim_v h _ e1 (by rw [c])
theorem sim_miss {S L : Sg} (h : Sim S L) (q : Int32) : (z_misses L q).1 = (m_misses S q).1 ∧ Sim (m_misses S q).2 (z_misses L q).2 := by
  have hG := h.2.2.1
  have e1 : m_part q (L.2 4 1) 1000 = m_dutyFor (bs S 10 5 ((S.2 10 5) + q)) q (S.1 11) := by rw [hG.2.1]; rfl
  refine ⟨e1, sim_g2 (sim_g13 h ?_) ?_⟩
  · rw [hG.2.2.2.2.2.2.2.2.2.2.2.2.2.1]
  · rw [e1, hG.2.2.1]
theorem sim_st {S L : Sg} (h : Sim S L) {i : Nat} (hi : i < ix (S.1 22)) (h0 : S.2 23 i = 0) (s : Nat) (hs : s < 8) : Sim (bs S 23 i (nI s)) (bs L 7 i (L.2 7 i ||| nI (131072 * s))) := by
  obtain ⟨hV, hA, hG, hL, hM⟩ := h
  refine ⟨hV, hA, hG, hL, fun j hj => ?_⟩
  obtain ⟨a, b⟩ := hM j hj
  refine ⟨a, ?_⟩
  show Mr (if j = i then L.2 7 i ||| nI (131072 * s) else L.2 7 j) (S.2 24 j) (S.2 25 j) (if j = i then nI s else S.2 23 j) (S.2 27 j)
  by_cases e : j = i
  · subst e
    rw [if_pos rfl, if_pos rfl]
    rw [h0] at b
    exact Mr_or b s hs
  · rw [if_neg e, if_neg e]
    exact b
/-! sums -/
theorem sm_upd {f : Nat → Int32} {i : Nat} {x : Int32} : ∀ {n : Nat}, i < n → sm (upd f i x) n = sm f n - f i + x
  | 0, h => absurd h (by omega)
  | n + 1, h => by
    rw [sm_s, sm_s]
    by_cases e : i = n
    · subst e
      rw [pk_us, sm_ext (g := f) (fun j hj => pk_un (by omega))]
      grind
    · rw [sm_upd (n := n) (by omega), pk_un (fun q => e q.symm)]
      grind
theorem sm_upd_o {f : Nat → Int32} {i n : Nat} {x : Int32} (h : n ≤ i) : sm (upd f i x) n = sm f n := sm_ext (fun j hj => pk_un (by omega))
def smI (f : Nat → Int) : Nat → Int
  | 0 => 0
  | n + 1 => smI f n + f n
theorem smI_s (f : Nat → Int) (n : Nat) : smI f (n + 1) = smI f n + f n := rfl
theorem smI_ext {f g : Nat → Int} : ∀ {n : Nat}, (∀ i, i < n → f i = g i) → smI f n = smI g n
  | 0, _ => rfl
  | n + 1, h => by rw [smI_s, smI_s, smI_ext (fun i hi => h i (by omega)), h n (by omega)]
theorem smI_upd {f g : Nat → Int} {i : Nat} : ∀ {n : Nat}, i < n → (∀ j, j < n → j ≠ i → g j = f j) → smI g n = smI f n - f i + g i
  | 0, h, _ => absurd h (by omega)
  | n + 1, h, hg => by
    rw [smI_s, smI_s]
    by_cases e : i = n
    · subst e
      rw [smI_ext (f := g) (g := f) (fun j hj => hg j (by omega) (by omega))]
      omega
    · rw [smI_upd (f := f) (n := n) (by omega) (fun j hj hn => hg j (by omega) hn), hg n (by omega) (fun q => e q.symm)]
      omega
theorem smI_0 {f : Nat → Int} : ∀ {n : Nat}, (∀ i, i < n → 0 ≤ f i) → 0 ≤ smI f n
  | 0, _ => by show (0 : Int) ≤ 0; omega
  | n + 1, h => by
    have := smI_0 (f := f) (n := n) (fun i hi => h i (by omega))
    have := h n (by omega)
    rw [smI_s]
    omega
theorem smI_b {f : Nat → Int} {B : Int} : ∀ {n : Nat}, (∀ i, i < n → f i ≤ B) → smI f n ≤ n * B
  | 0, _ => by show (0 : Int) ≤ ((0 : Nat) : Int) * B; rw [Int.natCast_zero, Int.zero_mul]; omega
  | n + 1, h => by
    have h1 := smI_b (f := f) (B := B) (n := n) (fun i hi => h i (by omega))
    have h2 := h n (by omega)
    rw [smI_s, Int.natCast_add, Int.add_mul]
    omega
/-! every drop has a place -/
def cq (S : Sg) : Int32 := m_inVessels S + m_moving S + m_inLots S + S.2 10 4 + S.2 10 5 + S.2 10 6 - S.2 10 0
theorem ix5 {S : Sg} (h : F5 S) : ix (S.1 2) = 5 := by rw [h.1]; rfl
theorem iv5 {S : Sg} (h : F5 S) : m_inVessels S = sm (S.2 6) 5 := by rw [m_inVessels, ix5 h]
/-! what is owed -/
def mvc (S : Sg) : Int := smI (fun k => if S.2 23 k = 0 then 1000000 else 0) (ix (S.1 22))
def ppc (S : Sg) : Int := smI (fun k => (S.2 20 k).toInt) (ix (S.1 18))
def BdA (S : Sg) : Prop := (0 ≤ (S.1 8).toInt ∧ (S.1 8).toInt ≤ 60) ∧ (0 ≤ (S.1 11).toInt ∧ (S.1 11).toInt ≤ 99) ∧ (0 ≤ (S.1 14).toInt ∧ (S.1 14).toInt ≤ 99) ∧ (0 ≤ (S.1 16).toInt ∧ (S.1 16).toInt ≤ 1000000)
def BdL (S : Sg) : Prop := ∀ i, i < ix (S.1 18) → (S.2 19 i).toInt ≤ 10000000 ∧ 0 ≤ (S.2 20 i).toInt ∧ (S.2 20 i).toInt ≤ 1000000
def BdO (T : Nat) (S : Sg) : Prop := ppc S - 100000000 ≤ (S.1 12).toInt ∧ (S.1 12).toInt + mvc S ≤ (T : Int) * (1000000 + 20000 * ((S.1 1).toInt / 30))
def Bd (T : Nat) (S : Sg) : Prop := BdA S ∧ BdL S ∧ BdO T S
def TI (T : Nat) (S L : Sg) : Prop := Inv S ∧ F5 S ∧ Sim S L ∧ cq S = 0 ∧ Bd T S
theorem mvc_0 (S : Sg) : 0 ≤ mvc S := smI_0 (fun i _ => by split <;> omega)
theorem ppc_0 {S : Sg} (h : BdL S) : 0 ≤ ppc S := smI_0 (fun i hi => (h i hi).2.1)
theorem ppc_b {S : Sg} (hF : F5 S) (h : BdL S) : ppc S ≤ 40000000 := by
  have h1 := smI_b (f := fun k => (S.2 20 k).toInt) (B := 1000000) (fun i hi => (h i hi).2.2)
  have := hF.2
  unfold ppc
  omega
theorem day_i {S : Sg} (h : Inv S) : 0 ≤ (S.1 1).toInt ∧ (S.1 1).toInt ≤ 900 := h.2.2.2.2.2.2.1
theorem bd_b {T : Nat} {S : Sg} (hT : T ≤ 120) (hI : Inv S) (hL : BdL S) (h : BdO T S) : -100000000 ≤ (S.1 12).toInt ∧ (S.1 12).toInt ≤ 192000000 := by
  obtain ⟨d1, d2⟩ := day_i hI
  have h1 := ppc_0 hL
  have h2 := mvc_0 S
  obtain ⟨h3, h4⟩ := h
  have h5 : (T : Int) * (1000000 + 20000 * ((S.1 1).toInt / 30)) ≤ 120 * 1600000 := Int.mul_le_mul (by omega) (by omega) (by omega) (by omega)
  omega
/-- one turn more: what is owed and what may be missed is more by a million at most -/
theorem bd_up {T : Nat} {S S' : Sg} (hI : Inv S) (h : BdO T S) (hd : S'.1 1 = S.1 1) (hp : ppc S' - 100000000 ≤ (S'.1 12).toInt) (ho : (S'.1 12).toInt + mvc S' ≤ (S.1 12).toInt + mvc S + 1000000) : BdO (T + 1) S' := by
  obtain ⟨d1, d2⟩ := day_i hI
  refine ⟨hp, ?_⟩
  have h2 := h.2
  rw [hd, Int.natCast_add, Int.add_mul]
  omega
theorem ti_up {T : Nat} {S L : Sg} (h : TI T S L) : TI (T + 1) S L :=
  ⟨h.1, h.2.1, h.2.2.1, h.2.2.2.1, h.2.2.2.2.1, h.2.2.2.2.2.1, bd_up h.1 h.2.2.2.2.2.2 rfl h.2.2.2.2.2.2.1 (by omega)⟩
/-- the duty for drops -/
theorem duty_b {q r : Int32} (hq : 0 ≤ q.toInt) (hq2 : q.toInt ≤ 10000000) (hr : 0 ≤ r.toInt) (hr2 : r.toInt ≤ 99) : 0 ≤ (m_part q r 1000).toInt ∧ (m_part q r 1000).toInt = q.toInt * r.toInt / 1000 ∧ (m_part q r 1000).toInt ≤ 990000 := by
  have p0 : 0 ≤ q.toInt * r.toInt := Int.mul_nonneg hq hr
  have p1 : q.toInt * r.toInt ≤ 10000000 * 99 := Int.mul_le_mul hq2 hr2 hr (by omega)
  have e : (m_part q r 1000).toInt = q.toInt * r.toInt / 1000 := by
    rw [i_part hq hr (by decide) (by rw [show (1000 : Int32).toInt = 1000 by decide]; omega), show (1000 : Int32).toInt = 1000 by decide]
  rw [e]
  omega
/-- more is owed by a duty -/
theorem owed_up {T : Nat} {S : Sg} (hT : T ≤ 120) (hI : Inv S) (hB : Bd T S) {x : Int32} (hx : 0 ≤ x.toInt) (hx2 : x.toInt ≤ 1000000) : (S.1 12 + x).toInt = (S.1 12).toInt + x.toInt := by
  have := bd_b hT hI hB.2.1 hB.2.2
  exact i_add (by omega) (by omega)
