/-! THE PICTURE IN THE MIDDLE: what both sides do, on plain things -/
/-- a dune: its fields by number (1 kind, 2 more, 3 front, 4 long, 5 high, 6 gone) -/
abbrev dw_D : Type := Nat → Int32
/-- a law: three rows of tokens -/
abbrev dw_W : Type := List Nat × List Nat × List Nat
def dw_on (cl : Int64) (d : dw_D) : Int32 := if dw_yds (d 3) (d 4) &&& cl = 0 then 0 else 1
def dw_nm (yr on : Int32) (d : dw_D) (t : Nat) : Int32 := if t < 10000 then nI t else if t = 10000 then d 5 else if t = 10001 then d 3 else if t = 10002 then d 4 else if t = 10003 then on else if t = 10004 then yr else d 2
def dw_jn (t : Nat) (a b : Int32) : Int32 := if t = 10006 then (if a = 0 then (if b = 0 then 0 else 1) else 1) else if t = 10007 then (if a = 0 then 0 else (if b = 0 then 0 else 1)) else if t = 10008 then (if b ≤ a then 0 else 1) else if t = 10009 then (if a = b then 1 else 0) else if t = 10010 then a + b else if t = 10011 then a - b else a * b
def dw_ev (E : Nat → Int32) : List Nat → Nat → (Nat → Int32) → (Nat → Int32)
  | [], _, g => g
  | t :: c, n, g => if t ≤ 10005 then dw_ev E c (n + 1) (upd g n (E t)) else if t = 10013 then dw_ev E c n (upd g (n - 1) (if g (n - 1) = 0 then 1 else 0)) else if t = 10014 then dw_ev E c n (upd g (n - 1) (-(g (n - 1)))) else dw_ev E c (n - 1) (upd g (n - 2) (dw_jn t (g (n - 2)) (g (n - 1))))
/-- a row of tokens that joins what it finds, from n numbers to one, never more than 32 -/
def dw_ok : List Nat → Nat → Prop
  | [], n => n = 1
  | t :: c, n => (t ≤ 10005 ∧ n < 32 ∧ dw_ok c (n + 1)) ∨ ((t = 10013 ∨ t = 10014) ∧ 1 ≤ n ∧ n ≤ 32 ∧ dw_ok c n) ∨ (10006 ≤ t ∧ t ≤ 10012 ∧ 2 ≤ n ∧ n ≤ 32 ∧ dw_ok c (n - 1))
theorem dw_ev_p (E : Nat → Int32) {t : Nat} (c : List Nat) (n : Nat) (g : Nat → Int32) (h : t ≤ 10005) : dw_ev E (t :: c) n g = dw_ev E c (n + 1) (upd g n (E t)) := by rw [dw_ev, if_pos h]
theorem dw_ev_n (E : Nat → Int32) (c : List Nat) (n : Nat) (g : Nat → Int32) : dw_ev E (10013 :: c) n g = dw_ev E c n (upd g (n - 1) (if g (n - 1) = 0 then 1 else 0)) := by rw [dw_ev, if_neg (by decide), if_pos rfl]
theorem dw_ev_m (E : Nat → Int32) (c : List Nat) (n : Nat) (g : Nat → Int32) : dw_ev E (10014 :: c) n g = dw_ev E c n (upd g (n - 1) (-(g (n - 1)))) := by rw [dw_ev, if_neg (by decide), if_neg (by decide), if_pos rfl]
theorem dw_ev_b (E : Nat → Int32) {t : Nat} (c : List Nat) (n : Nat) (g : Nat → Int32) (h : 10006 ≤ t) (h2 : t ≤ 10012) : dw_ev E (t :: c) n g = dw_ev E c (n - 1) (upd g (n - 2) (dw_jn t (g (n - 2)) (g (n - 1)))) := by rw [dw_ev, if_neg (by omega), if_neg (by omega), if_neg (by omega)]
/-- what lies under the heap of numbers doesn't matter -/
theorem dw_ev_cong (E : Nat → Int32) : ∀ (c : List Nat) (n : Nat) (g g' : Nat → Int32), dw_ok c n → (∀ j, j < n → g j = g' j) → dw_ev E c n g 0 = dw_ev E c n g' 0
  | [], n, g, g', ho, hg => by
    have h1 : n = 1 := ho
    exact hg 0 (by omega)
  | t :: c, n, g, g', ho, hg => by
    rcases ho with ⟨h1, h2, h3⟩ | ⟨h1, h2, h2', h3⟩ | ⟨h1, h1', h2, h2', h3⟩
    · rw [dw_ev_p E c n g h1, dw_ev_p E c n g' h1]
      refine dw_ev_cong E c (n + 1) _ _ h3 ?_
      intro j hj
      rw [upd_app, upd_app]
      by_cases hjn : j = n
      · rw [if_pos hjn, if_pos hjn]
      · rw [if_neg hjn, if_neg hjn, hg j (by omega)]
    · have hn := hg (n - 1) (by omega)
      rcases h1 with rfl | rfl
      · rw [dw_ev_n, dw_ev_n]
        refine dw_ev_cong E c n _ _ h3 ?_
        intro j hj
        rw [upd_app, upd_app, hn, hg j hj]
      · rw [dw_ev_m, dw_ev_m]
        refine dw_ev_cong E c n _ _ h3 ?_
        intro j hj
        rw [upd_app, upd_app, hn, hg j hj]
    · have hn := hg (n - 1) (by omega)
      have hn2 := hg (n - 2) (by omega)
      rw [dw_ev_b E c n g h1 h1', dw_ev_b E c n g' h1 h1']
      refine dw_ev_cong E c (n - 1) _ _ h3 ?_
      intro j hj
      rw [upd_app, upd_app, hn, hn2, hg j (by omega)]
def dw_val (yr on : Int32) (d : dw_D) (c : List Nat) : Int32 := dw_ev (dw_nm yr on d) c 0 (fun _ => 0) 0
def dw_row (w : dw_W) (p : Nat) : List Nat := if p = 0 then w.1 else if p = 1 then w.2.1 else w.2.2
def dw_says (w : dw_W) (cl : Int64) (yr : Int32) (d : dw_D) (p : Nat) : Int32 := dw_bd (dw_val yr (dw_on cl d) d (dw_row w p)) (if p = 1 then -99 else 0) (if p = 0 then 9 else 99)
def dw_blond (d : dw_D) (v : Int32) : Int32 := if d 5 ≤ 50 then v + 1 else v / 2
def dw_stride (w : dw_W) (cl : Int64) (yr : Int32) (d : dw_D) : Int32 := if d 1 = 1 then (if d 2 < dw_says w cl yr d 0 then d 2 else dw_says w cl yr d 0) else if d 1 = 2 then dw_blond d (dw_says w cl yr d 0) else if d 1 = 3 then (if yr &&& 1 = 0 then (if d 2 < dw_says w cl yr d 0 then d 2 else dw_says w cl yr d 0) else 0) else if d 1 = 4 then 2 * dw_blond d (dw_says w cl yr d 0) else if d 1 = 5 then 0 else dw_says w cl yr d 0
def dw_half (on v : Int32) : Int32 := if on = 0 then v else v / 2
def dw_growth (w : dw_W) (cl : Int64) (yr : Int32) (d : dw_D) : Int32 := if d 1 = 1 then dw_half (dw_on cl d) (dw_says w cl yr d 1) else if d 1 = 2 then dw_says w cl yr d 1 else if d 1 = 3 then dw_half (dw_on cl d) (dw_says w cl yr d 1) else if d 1 = 4 then dw_says w cl yr d 1 - d 2 else if d 1 = 5 then (if dw_on cl d = 0 then 0 else -(d 2)) else dw_says w cl yr d 1
def dw_need (w : dw_W) (cl : Int64) (yr : Int32) (d : dw_D) : Int32 := if d 1 = 2 then dw_says w cl yr d 2 + d 2 else if d 1 = 3 then 0 else if d 1 = 4 then dw_says w cl yr d 2 + d 2 else dw_says w cl yr d 2
/-- dunes by number -/
abbrev dw_L : Type := Nat → Nat → Int32
def dw_set (s : dw_L) (i f : Nat) (v : Int32) : dw_L := fun j k => if j = i ∧ k = f then v else s j k
theorem dw_set_app (s : dw_L) (i f j k : Nat) (v : Int32) : dw_set s i f v j k = if j = i ∧ k = f then v else s j k := rfl
/-- one is met or not -/
def dw_take1 (i o : Nat) (s : dw_L) : dw_L := if o = i then s else if s o 6 = 0 then (if dw_yds (s o 3) (s o 4) &&& dw_yds (s i 3) (s i 4) = 0 then s else if s i 5 < s o 5 then s else dw_set (dw_set s o 6 1) i 5 (dw_bd (s i 5 + s o 5 / 2) 0 99)) else s
def dw_take (i : Nat) (s : dw_L) : Nat → dw_L
  | 0 => s
  | k + 1 => dw_take1 i k (dw_take i s k)
def dw_g1 (w : dw_W) (cl : Int64) (yr : Int32) (i : Nat) (s : dw_L) : dw_L := dw_set s i 3 (dw_bd (s i 3 + dw_stride w cl yr (s i)) 0 39)
def dw_g2 (w : dw_W) (cl : Int64) (yr : Int32) (i : Nat) (s : dw_L) : dw_L := dw_take i (dw_g1 w cl yr i s) 6
def dw_g3 (w : dw_W) (cl : Int64) (yr : Int32) (i : Nat) (s : dw_L) : dw_L := dw_set (dw_g2 w cl yr i s) i 5 (dw_bd (dw_g2 w cl yr i s i 5 + dw_growth w cl yr (dw_g2 w cl yr i s i)) 0 99)
def dw_go1 (w : dw_W) (cl : Int64) (yr : Int32) (i : Nat) (s : dw_L) : dw_L := dw_set (dw_g3 w cl yr i s) i 6 (if dw_need w cl yr (dw_g3 w cl yr i s i) ≤ dw_g3 w cl yr i s i 5 then 0 else 1)
def dw_turn (w : dw_W) (cl : Int64) (yr : Int32) (s : dw_L) : Nat → dw_L
  | 0 => s
  | k + 1 => if dw_turn w cl yr s k k 6 = 0 then dw_go1 w cl yr k (dw_turn w cl yr s k) else dw_turn w cl yr s k
/-- one year -/
def dw_year (w : dw_W) (cl : Int64) (s : dw_L × Int32) : dw_L × Int32 := (dw_turn w cl s.2 s.1 6, s.2 + 1)
def dw_years (w : dw_W) (cl : Int64) (s : dw_L × Int32) : Nat → dw_L × Int32
  | 0 => s
  | k + 1 => dw_year w cl (dw_years w cl s k)
def dw_sand (s : dw_L) : Nat → Int64
  | 0 => 0
  | k + 1 => dw_sand s k ||| (if s k 6 = 0 then dw_yds (s k 3) (s k 4) else 0)
def dw_live (s : dw_L) : Nat → Int32
  | 0 => 0
  | k + 1 => dw_live s k ||| (if s k 6 = 0 then 1 <<< (nI k &&& 31) else 0)
