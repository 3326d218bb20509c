/-! THE STATE: what both sides tell of; what every call makes of it -/
/-- a land: how many dunes, the dunes, the year, houses, clover, the text -/
abbrev dw_Ln : Type := Nat × dw_L × Nat × Int64 × Int64 × Nat
/-- the land that is, the texts, the tape, the image, the sheets -/
abbrev dw_S : Type := dw_Ln × (Nat × (Nat → dw_W)) × (Nat × (Nat → Nat)) × Option dw_Ln × dw_H
def dw_Lok : dw_Ln → Nat → Prop
  | (m, s, yy, ho, cl, r), tx => m ≤ 6 ∧ dw_WFA s ∧ dw_Dead m s ∧ yy ≤ 999 ∧ dw_small ho ∧ dw_small cl ∧ r < tx
def dw_Iok : Option dw_Ln → Nat → dw_L → Nat → Prop
  | none, _, _, _ => True
  | some l, m, s, tx => dw_Lok l tx ∧ l.1 ≤ m ∧ ∀ d, d < l.1 → l.2.1 d 1 = s d 1 ∧ l.2.1 d 2 = s d 2
def dw_Ok : dw_S → Prop
  | ((m, s, yy, ho, cl, r), (tx, wt), (tp, tb), im, H) => dw_Lok (m, s, yy, ho, cl, r) tx ∧ 1 ≤ tx ∧ tx ≤ 6 ∧ (∀ t, t < tx → ∀ p, p < 3 → dw_ok (dw_row (wt t) p) 0 ∧ (dw_row (wt t) p).length ≤ 160) ∧ tp ≤ 160 ∧ (∀ k, k < tp → tb k < 256) ∧ dw_Iok im m s tx ∧ dw_Hok H
def dw_vcount : dw_S → Int32 → Int32
  | ((m, s, yy, ho, cl, r), (tx, _), (tp, _), _, _), a => if a = 0 then nI m else if a = 1 then dw_pcL (dw_live s 6).toInt64 else if a = 2 then nI yy else if a = 3 then dw_pcL ho else if a = 4 then dw_pcL cl else if a = 5 then nI tx else if a = 6 then nI r else if a = 7 then nI tp else -2
def dw_will (is : Int32) (of : Int64) (y : Nat) : Int64 := if is = 1 then of ||| dw_bit y else of &&& (dw_bit y ^^^ (-1))
def dw_oyard : dw_S → Int32 → Int32 → Int32 → dw_S × Int32
  | ((m, s, yy, ho, cl, r), T, P, im, H), y, wh, is => if dw_in y 0 39 = 0 then (((m, s, yy, ho, cl, r), T, P, im, H), -5) else if dw_in wh 0 1 = 0 then (((m, s, yy, ho, cl, r), T, P, im, H), -7) else if dw_in is 0 1 = 0 then (((m, s, yy, ho, cl, r), T, P, im, H), -7) else if wh = 0 then (((m, s, yy, dw_will is ho (dw_N y), cl, r), T, P, im, H), if dw_tb ho (dw_N y) = true then 1 else 0) else (((m, s, yy, ho, dw_will is cl (dw_N y), r), T, P, im, H), if dw_tb cl (dw_N y) = true then 1 else 0)
def dw_vparish : dw_S → Int32 → Int64
  | ((_, s, _, ho, cl, _), _, _, _, _), a => if a = 0 then ho else if a = 1 then cl else if a = 2 then dw_sand s 6 else if a = 3 then ho &&& dw_sand s 6 else -4611686018427387904
def dw_fv (a b c d e : Int32) (k : Nat) : Int32 := if k = 0 then a else if k = 1 then b else if k = 2 then c else if k = 3 then d else e
def dw_ofeed : dw_S → Int32 → Int32 → Int32 → Int32 → Int32 → Int32 → dw_S × Int32
  | (l, T, (tp, tb), im, H), n, a, b, c, d, e => if dw_in n 1 5 = 0 then ((l, T, (tp, tb), im, H), -2) else if dw_in a 0 255 = 0 then ((l, T, (tp, tb), im, H), -2) else if dw_in b 0 255 = 0 then ((l, T, (tp, tb), im, H), -2) else if dw_in c 0 255 = 0 then ((l, T, (tp, tb), im, H), -2) else if dw_in d 0 255 = 0 then ((l, T, (tp, tb), im, H), -2) else if dw_in e 0 255 = 0 then ((l, T, (tp, tb), im, H), -2) else if tp + dw_N n ≤ 160 then ((l, T, (tp + dw_N n, fun k => if k < tp then tb k else dw_N (dw_fv a b c d e (k - tp))), im, H), nI (tp + dw_N n)) else ((l, T, (tp, tb), im, H), -4)
def dw_oforce : dw_S → Int32 → dw_S × Int32
  | ((m, s, yy, ho, cl, r), (tx, wt), P, im, H), t => if dw_in t 0 (nI tx - 1) = 0 then (((m, s, yy, ho, cl, r), (tx, wt), P, im, H), -2) else (((m, s, yy, ho, cl, dw_N t), (tx, wt), P, im, H), nI r)
def dw_asks0 (w : dw_W) (cl : Int64) (y : Int32) (s : dw_L) (p : Int32) : Option Nat → Int32
  | none => -1000
  | some j => dw_says w cl y (s j) (dw_N p)
def dw_vasks : dw_S → Int32 → Int32 → Int32
  | ((_, s, yy, _, cl, r), (_, wt), _, _, _), p, d => if dw_in p 0 2 = 0 then -1000 else dw_asks0 (wt r) cl (nI yy) s p (dw_st s d 6)
def dw_newd (s : dw_L) (m K A : Nat) : dw_L := fun d f => if d = m then (if f = 1 then nI (K / 10) else if f = 2 then nI (K % 10) else if f = 3 then nI (A / 10000) else if f = 4 then nI (A / 1000 % 10) else if f = 5 then nI (A % 1000) else 0) else s d f
def dw_odune : dw_S → Int32 → Int32 → dw_S × Int32
  | ((m, s, yy, ho, cl, r), T, P, im, H), k, a => if dw_in k 0 59 = 0 then (((m, s, yy, ho, cl, r), T, P, im, H), -2) else if dw_in a 0 399099 = 0 then (((m, s, yy, ho, cl, r), T, P, im, H), -2) else if 100 ≤ dw_N a % 1000 then (((m, s, yy, ho, cl, r), T, P, im, H), -2) else if dw_N a / 1000 % 10 = 0 then (((m, s, yy, ho, cl, r), T, P, im, H), -2) else if m = 6 then (((m, s, yy, ho, cl, r), T, P, im, H), -4) else (((m + 1, dw_newd s m (dw_N k) (dw_N a), yy, ho, cl, r), T, P, im, H), nI m)
def dw_lo (wh : Int32) : Int32 := if wh = 1 then 1 else 0
def dw_hi (wh : Int32) : Int32 := if wh = 0 then 39 else if wh = 1 then 9 else 99
def dw_oput0 (σ : dw_S) (wh v : Int32) : Option Nat → dw_S × Int32
  | none => (σ, -5)
  | some j => if dw_in wh 0 2 = 0 then (σ, -7) else if dw_in v (dw_lo wh) (dw_hi wh) = 0 then (σ, -7) else (((σ.1.1, dw_set σ.1.2.1 j (3 + dw_N wh) v, σ.1.2.2), σ.2), σ.1.2.1 j (3 + dw_N wh))
def dw_oput (σ : dw_S) (d wh v : Int32) : dw_S × Int32 := dw_oput0 σ wh v (dw_st σ.1.2.1 d 6)
def dw_told0 (w : dw_W) (ho cl : Int64) (y : Int32) (s : dw_L) (a : Int32) : Option Nat → Int32
  | none => -5
  | some j => if a = 0 then s j 3 else if a = 1 then s j 4 else if a = 2 then s j 5 else if a = 3 then s j 1 else if a = 4 then s j 2 else if a = 5 then dw_on cl (s j) else if a = 6 then dw_stride w cl y (s j) else if a = 7 then dw_need w cl y (s j) else if a = 8 then dw_pcL (ho &&& dw_yds (s j 3) (s j 4)) else -7
def dw_vtold : dw_S → Int32 → Int32 → Int32
  | ((_, s, yy, ho, cl, r), (_, wt), _, _, _), d, a => dw_told0 (wt r) ho cl (nI yy) s a (dw_st s d 6)
def dw_grows0 (w : dw_W) (cl : Int64) (y : Int32) (s : dw_L) : Option Nat → Int32
  | none => -1000
  | some j => dw_growth w cl y (s j)
def dw_vgrows : dw_S → Int32 → Int32
  | ((_, s, yy, _, cl, r), (_, wt), _, _, _), d => dw_grows0 (wt r) cl (nI yy) s (dw_st s d 6)
def dw_oyear : dw_S → dw_S × Int32
  | ((m, s, yy, ho, cl, r), (tx, wt), P, im, H) => if yy = 999 then (((m, s, yy, ho, cl, r), (tx, wt), P, im, H), -3) else (((m, dw_turn (wt r) cl (nI yy) s 6, yy + 1, ho, cl, r), (tx, wt), P, im, H), dw_live s 6 &&& (dw_live (dw_turn (wt r) cl (nI yy) s 6) 6 ^^^ (-1)))
def dw_oimage : dw_S → dw_S × Int32
  | (l, T, P, _, H) => ((l, T, P, some l, H), nI l.1)
def dw_oback : dw_S → dw_S × Int32
  | (l, T, P, none, H) => ((l, T, P, none, H), -3)
  | (_, T, P, some l, H) => ((l, T, P, some l, H), nI l.1)
def dw_Hset (H : dw_H) (a : Nat) (sort n : Int32) : dw_H := (upd H.1 a sort, upd H.2.1 a n, fun k i => if k = a then 0 else H.2.2 k i)
def dw_osheet : dw_S → Int32 → Int32 → Int32 → dw_S × Int32
  | (l, T, P, im, H), a, sort, n => if dw_in a 0 3 = 0 then ((l, T, P, im, H), -2) else if dw_in sort (-1) 2 = 0 then ((l, T, P, im, H), -2) else if sort = -1 then ((l, T, P, im, dw_Hset H (dw_N a) (-1) 0), 1) else if n ≤ 40 then (if 0 ≤ n then ((l, T, P, im, dw_Hset H (dw_N a) sort n), 1) else ((l, T, P, im, H), -14)) else ((l, T, P, im, H), -2)
def dw_cast (sort v : Int32) : Int32 := if sort = 0 then v.toInt8.toInt32 else if sort = 1 then v.toInt16.toInt32 else v
def dw_Hcell (H : dw_H) (a i : Nat) (v : Int32) : dw_H := (H.1, H.2.1, fun k j => if k = a ∧ j = i then v else H.2.2 k j)
def dw_ocell : dw_S → Int32 → Int32 → Int32 → dw_S × Int32
  | (l, T, P, im, H), a, i, v => if dw_in a 0 3 = 0 then ((l, T, P, im, H), -2) else if H.1 (dw_N a) = -1 then ((l, T, P, im, H), -11) else if dw_in i 0 (H.2.1 (dw_N a) - 1) = 0 then ((l, T, P, im, H), -12) else ((l, T, P, im, dw_Hcell H (dw_N a) (dw_N i) (dw_cast (H.1 (dw_N a)) v)), 1)
def dw_pl (i n z : Int32) : Prop := 0 ≤ i.toInt ∧ 0 ≤ n.toInt ∧ i.toInt + n.toInt ≤ z.toInt
def dw_plb (i n z : Int32) : Bool := decide (0 ≤ i.toInt) && decide (0 ≤ n.toInt) && decide (i.toInt + n.toInt ≤ z.toInt)
def dw_Hcopy (H : dw_H) (a i o j n : Nat) : dw_H := (H.1, H.2.1, fun k x => if k = o ∧ j ≤ x ∧ x < j + n then H.2.2 a (i + (x - j)) else H.2.2 k x)
def dw_ocopy : dw_S → Int32 → Int32 → Int32 → Int32 → Int32 → dw_S × Int32
  | (l, T, P, im, H), a, i, o, j, n => if dw_in a 0 3 = 0 then ((l, T, P, im, H), -2) else if dw_in o 0 3 = 0 then ((l, T, P, im, H), -2) else if H.1 (dw_N a) = -1 then ((l, T, P, im, H), -11) else if H.1 (dw_N o) = -1 then ((l, T, P, im, H), -11) else if H.1 (dw_N a) = H.1 (dw_N o) then (if (dw_plb i n (H.2.1 (dw_N a)) && dw_plb j n (H.2.1 (dw_N o))) = true then ((l, T, P, im, dw_Hcopy H (dw_N a) (dw_N i) (dw_N o) (dw_N j) (dw_N n)), n) else ((l, T, P, im, H), -12)) else ((l, T, P, im, H), -13)
def dw_dby (c : Nat → Int32) (z fr : Int32) : Nat → Nat → dw_S → Int32 → dw_S × Int32
  | 0, _, σ, v => (σ, v)
  | k + 1, i, σ, v => if dw_plb (fr + nI (2 * i)) 2 z = true then dw_dby c z fr k (i + 1) (dw_odune σ (c (dw_N fr + 2 * i)) (c (dw_N fr + 2 * i + 1))).1 (if (dw_odune σ (c (dw_N fr + 2 * i)) (c (dw_N fr + 2 * i + 1))).2 < 0 then v else v + 1) else (σ, -12)
def dw_odby : dw_S → Int32 → Int32 → Int32 → Int32 → dw_S × Int32
  | (l, T, P, im, H), a, sort, fr, n => if dw_in a 0 3 = 0 then ((l, T, P, im, H), -2) else if dw_in sort 0 2 = 0 then ((l, T, P, im, H), -2) else if dw_in n 0 6 = 0 then ((l, T, P, im, H), -2) else if H.1 (dw_N a) = -1 then ((l, T, P, im, H), -11) else if H.1 (dw_N a) = sort then dw_dby (H.2.2 (dw_N a)) (H.2.1 (dw_N a)) fr (dw_N n) 0 (l, T, P, im, H) 0 else ((l, T, P, im, H), -13)
def dw_und (k a : Int32) : Bool := decide (a = 0) || decide (k = a) || (decide (a = 1) && decide (k = 3)) || (decide (a = 2) && decide (k = 4))
def dw_vtaken : dw_S → Int32 → Int32 → Int32
  | ((m, s, _, _, _, _), _, _, _, _), i, k => if dw_in k 0 6 = 0 then -2 else if dw_in i 0 11 = 0 then -12 else if dw_N i % 6 < m then (if dw_N i < 6 then (if k = 6 then -13 else if dw_und (s (dw_N i) 1) k = true then i else -13) else if k = 6 then s (dw_N i - 6) 5 else -13) else -11
/-! THE REFERENCE'S HEAP TELLS OF A STATE -/
def dw_RI (X : dw_X) : Option dw_Ln → Prop
  | none => dw_gI X 14 = 0
  | some (m, s, yy, ho, cl, r) => dw_gI X 14 = 1 ∧ (∀ d, d < m → dw_gA X 8 (3 * d) = s d 3 ∧ dw_gA X 8 (3 * d + 1) = s d 4 ∧ dw_gA X 8 (3 * d + 2) = s d 5 ∧ dw_gA X 8 (18 + d) = s d 6) ∧ dw_gY X 0 = ho ∧ dw_gY X 1 = cl ∧ dw_gA X 10 0 = nI m ∧ dw_gA X 10 1 = nI yy ∧ dw_gA X 10 2 = nI r
def dw_RX (X : dw_X) (R G : Nat → Int32) : dw_S → Prop
  | ((m, s, _, ho, cl, r), (tx, wt), (tp, tb), im, H) => dw_Rel s m X R G ∧ dw_gI X 0 = nI m ∧ dw_gJ X 5 = ho ∧ dw_gJ X 6 = cl ∧ dw_gI X 13 = nI r ∧ dw_gI X 12 = nI tx ∧ (∀ t, t < tx → dw_ML X t (wt t)) ∧ dw_gI X 9 = nI tp ∧ (∀ k, k < tp → dw_gA X 5 k = nI (tb k)) ∧ dw_RI X im ∧ dw_SH X H
def dw_Go {α : Type} (o : Option (pm_H × α)) (σ : dw_S) (v : α) : Prop := ∃ X R G S N, o = some (dw_mk X R G S N (nI σ.1.2.2.1), v) ∧ dw_RX X R G σ
section MC
variable {X : dw_X} {R G S N : Nat → Int32} {w : dw_W} {r m yy tx tp : Nat} {s : dw_L} {H : dw_H} {ho cl : Int64} {wt : Nat → dw_W} {tb : Nat → Nat} {im : Option dw_Ln}
theorem dw_RI_Es {X' : dw_X} (e : dw_Es X X') (h : dw_RI X im) : dw_RI X' im := by
  have e8 : ∀ c i, c = 8 ∨ c = 10 → dw_gA X' c i = dw_gA X c i := fun c i hc => e.2.2.1 c i (by omega) (by omega) (by omega) (by omega) (by omega) (by omega)
  cases im with
  | none => exact (e.1 14 (by decide)).trans h
  | some l =>
    obtain ⟨m, s, yy, ho, cl, r⟩ := l
    obtain ⟨h1, h2, h3, h4, h5, h6, h7⟩ := h
    refine ⟨(e.1 14 (by decide)).trans h1, fun d hd => ?_, (e.2.2.2 0).trans h3, (e.2.2.2 1).trans h4, (e8 10 0 (by decide)).trans h5, (e8 10 1 (by decide)).trans h6, (e8 10 2 (by decide)).trans h7⟩
    obtain ⟨a, b, c, d'⟩ := h2 d hd
    exact ⟨(e8 8 _ (by decide)).trans a, (e8 8 _ (by decide)).trans b, (e8 8 _ (by decide)).trans c, (e8 8 _ (by decide)).trans d'⟩
theorem dw_Rel_RG {R' G' : Nat → Int32} (hm : m ≤ 6) (hR : ∀ k, k < 18 → R' k = R k) (hG : ∀ k, k < 6 → G' k = G k) (h : dw_Rel s m X R G) : dw_Rel s m X R' G' := dw_Rel_Eq (dw_Eq_rfl X) hm hR hG h
theorem dw_RX_Es {X' : dw_X} {R' G' : Nat → Int32} {H' : dw_H} (hm : m ≤ 6) (e : dw_Es X X') (hs : dw_SH X' H') (hR : ∀ k, k < 18 → R' k = R k) (hG : ∀ k, k < 6 → G' k = G k) (h : dw_RX X R G ((m, s, yy, ho, cl, r), (tx, wt), (tp, tb), im, H)) : dw_RX X' R' G' ((m, s, yy, ho, cl, r), (tx, wt), (tp, tb), im, H') := by
  obtain ⟨h1, h2, h3, h4, h5, h6, h7, h8, h9, h10, h11⟩ := h
  exact ⟨dw_Rel_RG hm hR hG (dw_Rel_Es e h1), (e.1 0 (by decide)).trans h2, (e.2.1 5).trans h3, (e.2.1 6).trans h4, (e.1 13 (by decide)).trans h5, (e.1 12 (by decide)).trans h6, fun t ht => dw_ML_Es e (h7 t ht), (e.1 9 (by decide)).trans h8, fun k hk => (e.2.2.1 5 k (by decide) (by decide) (by decide) (by decide) (by decide) (by decide)).trans (h9 k hk), dw_RI_Es e h10, hs⟩
theorem dw_Go_Bk {α : Type} {o : Option (pm_H × α)} {v : α} (hm : m ≤ 6) (h : dw_RX X R G ((m, s, yy, ho, cl, r), (tx, wt), (tp, tb), im, H)) (b : dw_Bk o X R G (nI yy) v) : dw_Go o ((m, s, yy, ho, cl, r), (tx, wt), (tp, tb), im, H) v := by
  obtain ⟨X', R', G', S, N, b1, b2, b3, b4⟩ := b
  exact ⟨X', R', G', S, N, b1, dw_RX_Es hm (dw_Es_of b2) (dw_SH_Eq h.2.2.2.2.2.2.2.2.2.2 b2) b3 b4 h⟩
theorem dw_Go_Bs {α : Type} {o : Option (pm_H × α)} {v : α} {H' : dw_H} (hm : m ≤ 6) (h : dw_RX X R G ((m, s, yy, ho, cl, r), (tx, wt), (tp, tb), im, H)) (b : dw_Bs o X R G (nI yy) v H') : dw_Go o ((m, s, yy, ho, cl, r), (tx, wt), (tp, tb), im, H') v := by
  obtain ⟨X', R', G', S, N, b1, b2, b3, b4, b5⟩ := b
  exact ⟨X', R', G', S, N, b1, dw_RX_Es hm b2 b3 b4 b5 h⟩
theorem dw_RX_TH (h : dw_RX X R G ((m, s, yy, ho, cl, r), (tx, wt), (tp, tb), im, H)) (ok : dw_Ok ((m, s, yy, ho, cl, r), (tx, wt), (tp, tb), im, H)) : dw_TH X R G r m (wt r) s yy := by
  obtain ⟨h1, h2, h3, h4, h5, h6, h7, h8, h9, h10, h11⟩ := h
  obtain ⟨⟨o1, o2, o3, o4, o5, o6, o7⟩, o8, o9, _⟩ := ok
  exact ⟨⟨h5, by omega, h7 r o7, h2, o1⟩, o2, o3, by omega, h3.symm ▸ o5, h1⟩
theorem dw_Go_id {α : Type} {v : α} {σ : dw_S} (h : dw_RX X R G σ) : dw_Go (some (dw_mk X R G S N (nI σ.1.2.2.1), v)) σ v := ⟨X, R, G, S, N, rfl, h⟩
end MC
