/-! THE REFERENCE: what is thought leaves the state -/
section MC
variable {X : dw_X} {R G S N : Nat → Int32} {w : dw_W} {r m yy tx tp : Nat} {s : dw_L} {H : dw_H} {ho cl : Int64} {wt : Nat → dw_W} {tb : Nat → Nat} {im : Option dw_Ln}
theorem dw_all (h : dw_RX X R G ((m, s, yy, ho, cl, r), (tx, wt), (tp, tb), im, H)) (ok : dw_Ok ((m, s, yy, ho, cl, r), (tx, wt), (tp, tb), im, H)) : dw_TH X R G r m (wt r) s yy ∧ dw_small (dw_gJ X 6) ∧ dw_SH X H ∧ dw_Hok H ∧ yy < 2 ^ 29 ∧ tx ≤ 6 ∧ dw_gI X 12 = nI tx ∧ (∀ t, t < tx → dw_ML X t (wt t)) ∧ dw_gJ X 5 = ho ∧ dw_gJ X 6 = cl ∧ m ≤ 6 := by
  have hT := dw_RX_TH h ok
  obtain ⟨h1, h2, h3, h4, h5, h6, h7, h8, h9, h10, h11⟩ := id h
  obtain ⟨⟨o1, o2, o3, o4, o5, o6, o7⟩, k2, k3, k4, k5, k6, k7, k8⟩ := id ok
  exact ⟨hT, h4.symm ▸ o6, h11, k8, by omega, k3, h6, h7, h3, h4, o1⟩
theorem dw_Grun (h : dw_RX X R G ((m, s, yy, ho, cl, r), (tx, wt), (tp, tb), im, H)) (ok : dw_Ok ((m, s, yy, ho, cl, r), (tx, wt), (tp, tb), im, H)) (a b : Int32) : dw_Go (M_run (dw_mk X R G S N (nI yy)) 0 a b) ((m, s, yy, ho, cl, r), (tx, wt), (tp, tb), im, H) (dw_qrun (wt r) cl ho s yy a b) := by
  obtain ⟨hT, hcl, hs, hH, hy, hx6, hx, hL, e5, e6, o1⟩ := dw_all h ok
  have g := dw_Mrun (S := S) (N := N) hT a b
  simp only [e5, e6] at g
  exact dw_Go_Bk o1 h g
theorem dw_Gcomes (h : dw_RX X R G ((m, s, yy, ho, cl, r), (tx, wt), (tp, tb), im, H)) (ok : dw_Ok ((m, s, yy, ho, cl, r), (tx, wt), (tp, tb), im, H)) (a b : Int32) : dw_Go (M_comes (dw_mk X R G S N (nI yy)) 0 a b) ((m, s, yy, ho, cl, r), (tx, wt), (tp, tb), im, H) (dw_qcomes (wt r) cl s yy a b) := by
  obtain ⟨hT, hcl, hs, hH, hy, hx6, hx, hL, e5, e6, o1⟩ := dw_all h ok
  have g := dw_Mcomes (S := S) (N := N) hT a b
  simp only [e5, e6] at g
  exact dw_Go_Bk o1 h g
theorem dw_Gends (h : dw_RX X R G ((m, s, yy, ho, cl, r), (tx, wt), (tp, tb), im, H)) (ok : dw_Ok ((m, s, yy, ho, cl, r), (tx, wt), (tp, tb), im, H)) (a : Int32) : dw_Go (M_ends (dw_mk X R G S N (nI yy)) 0 a) ((m, s, yy, ho, cl, r), (tx, wt), (tp, tb), im, H) (dw_qends (wt r) cl s yy a) := by
  obtain ⟨hT, hcl, hs, hH, hy, hx6, hx, hL, e5, e6, o1⟩ := dw_all h ok
  have g := dw_Mends (S := S) (N := N) hT a
  simp only [e5, e6] at g
  exact dw_Go_Bk o1 h g
theorem dw_Gfirst (h : dw_RX X R G ((m, s, yy, ho, cl, r), (tx, wt), (tp, tb), im, H)) (ok : dw_Ok ((m, s, yy, ho, cl, r), (tx, wt), (tp, tb), im, H)) (a : Int32) : dw_Go (M_first (dw_mk X R G S N (nI yy)) 0 a) ((m, s, yy, ho, cl, r), (tx, wt), (tp, tb), im, H) (dw_qfirst (wt r) cl s yy a) := by
  obtain ⟨hT, hcl, hs, hH, hy, hx6, hx, hL, e5, e6, o1⟩ := dw_all h ok
  have g := dw_Mfirst (S := S) (N := N) hT a
  simp only [e5, e6] at g
  exact dw_Go_Bk o1 h g
theorem dw_Gsow (h : dw_RX X R G ((m, s, yy, ho, cl, r), (tx, wt), (tp, tb), im, H)) (ok : dw_Ok ((m, s, yy, ho, cl, r), (tx, wt), (tp, tb), im, H)) (a b : Int32) : dw_Go (M_sow (dw_mk X R G S N (nI yy)) 0 a b) ((m, s, yy, ho, cl, r), (tx, wt), (tp, tb), im, H) (dw_qsow (wt r) cl ho s yy a b) := by
  obtain ⟨hT, hcl, hs, hH, hy, hx6, hx, hL, e5, e6, o1⟩ := dw_all h ok
  have g := dw_Msow (S := S) (N := N) hT hcl a b
  simp only [e5, e6] at g
  exact dw_Go_Bk o1 h g
theorem dw_Gmove (h : dw_RX X R G ((m, s, yy, ho, cl, r), (tx, wt), (tp, tb), im, H)) (ok : dw_Ok ((m, s, yy, ho, cl, r), (tx, wt), (tp, tb), im, H)) (a b : Int32) : dw_Go (M_move (dw_mk X R G S N (nI yy)) 0 a b) ((m, s, yy, ho, cl, r), (tx, wt), (tp, tb), im, H) (dw_qmove (wt r) cl ho s yy a b) := by
  obtain ⟨hT, hcl, hs, hH, hy, hx6, hx, hL, e5, e6, o1⟩ := dw_all h ok
  have g := dw_Mmove (S := S) (N := N) hT a b
  simp only [e5, e6] at g
  exact dw_Go_Bk o1 h g
theorem dw_Ghold (h : dw_RX X R G ((m, s, yy, ho, cl, r), (tx, wt), (tp, tb), im, H)) (ok : dw_Ok ((m, s, yy, ho, cl, r), (tx, wt), (tp, tb), im, H)) (a b : Int32) : dw_Go (M_hold (dw_mk X R G S N (nI yy)) 0 a b) ((m, s, yy, ho, cl, r), (tx, wt), (tp, tb), im, H) (dw_qhold (wt r) cl ho s yy a b) := by
  obtain ⟨hT, hcl, hs, hH, hy, hx6, hx, hL, e5, e6, o1⟩ := dw_all h ok
  have g := dw_Mhold (S := S) (N := N) hT a b
  simp only [e5, e6] at g
  exact dw_Go_Bk o1 h g
theorem dw_Gshare (h : dw_RX X R G ((m, s, yy, ho, cl, r), (tx, wt), (tp, tb), im, H)) (ok : dw_Ok ((m, s, yy, ho, cl, r), (tx, wt), (tp, tb), im, H)) (a b : Int32) : dw_Go (M_share (dw_mk X R G S N (nI yy)) 0 a b) ((m, s, yy, ho, cl, r), (tx, wt), (tp, tb), im, H) (dw_qshare (wt r) cl ho s yy a b) := by
  obtain ⟨hT, hcl, hs, hH, hy, hx6, hx, hL, e5, e6, o1⟩ := dw_all h ok
  have g := dw_Mshare (S := S) (N := N) hT a b
  simp only [e5, e6] at g
  exact dw_Go_Bk o1 h g
theorem dw_Gjudge (h : dw_RX X R G ((m, s, yy, ho, cl, r), (tx, wt), (tp, tb), im, H)) (ok : dw_Ok ((m, s, yy, ho, cl, r), (tx, wt), (tp, tb), im, H)) (a b : Int32) : dw_Go (M_judge (dw_mk X R G S N (nI yy)) 0 a b) ((m, s, yy, ho, cl, r), (tx, wt), (tp, tb), im, H) (dw_qjudge (wt r) cl s yy H a b) := by
  obtain ⟨hT, hcl, hs, hH, hy, hx6, hx, hL, e5, e6, o1⟩ := dw_all h ok
  have g := dw_Mjudge (S := S) (N := N) hT hs hH a b
  simp only [e5, e6] at g
  exact dw_Go_Bk o1 h g
theorem dw_Gkinds (h : dw_RX X R G ((m, s, yy, ho, cl, r), (tx, wt), (tp, tb), im, H)) (ok : dw_Ok ((m, s, yy, ho, cl, r), (tx, wt), (tp, tb), im, H)) (a b c : Int32) : dw_Go (M_kinds (dw_mk X R G S N (nI yy)) 0 a b c) ((m, s, yy, ho, cl, r), (tx, wt), (tp, tb), im, H) (dw_qkinds (wt r) cl s yy H a b c) := by
  obtain ⟨hT, hcl, hs, hH, hy, hx6, hx, hL, e5, e6, o1⟩ := dw_all h ok
  have g := dw_Mkinds (S := S) (N := N) hT hs hH a b c
  simp only [e5, e6] at g
  exact dw_Go_Bk o1 h g
theorem dw_Gstates (h : dw_RX X R G ((m, s, yy, ho, cl, r), (tx, wt), (tp, tb), im, H)) (ok : dw_Ok ((m, s, yy, ho, cl, r), (tx, wt), (tp, tb), im, H)) (a b c d : Int32) : dw_Go (M_states (dw_mk X R G S N (nI yy)) 0 a b c d) ((m, s, yy, ho, cl, r), (tx, wt), (tp, tb), im, H) (dw_qstates (wt r) cl s yy H a b c d) := by
  obtain ⟨hT, hcl, hs, hH, hy, hx6, hx, hL, e5, e6, o1⟩ := dw_all h ok
  have g := dw_Mstates (S := S) (N := N) hT hs hH a b c d
  simp only [e5, e6] at g
  exact dw_Go_Bk o1 h g
theorem dw_Gwhose (h : dw_RX X R G ((m, s, yy, ho, cl, r), (tx, wt), (tp, tb), im, H)) (ok : dw_Ok ((m, s, yy, ho, cl, r), (tx, wt), (tp, tb), im, H)) (a : Int32) : dw_Go (M_whose (dw_mk X R G S N (nI yy)) 0 a) ((m, s, yy, ho, cl, r), (tx, wt), (tp, tb), im, H) (dw_qwhose (wt r) cl s yy H a) := by
  obtain ⟨hT, hcl, hs, hH, hy, hx6, hx, hL, e5, e6, o1⟩ := dw_all h ok
  have g := dw_Mwhose (S := S) (N := N) hT hs hH a
  simp only [e5, e6] at g
  exact dw_Go_Bk o1 h g
theorem dw_Glaws (h : dw_RX X R G ((m, s, yy, ho, cl, r), (tx, wt), (tp, tb), im, H)) (ok : dw_Ok ((m, s, yy, ho, cl, r), (tx, wt), (tp, tb), im, H)) (a b : Int32) : dw_Go (M_laws (dw_mk X R G S N (nI yy)) 0 a b) ((m, s, yy, ho, cl, r), (tx, wt), (tp, tb), im, H) (dw_qlaws wt tx cl s yy H a b) := by
  obtain ⟨hT, hcl, hs, hH, hy, hx6, hx, hL, e5, e6, o1⟩ := dw_all h ok
  have g := dw_Mlaws (S := S) (N := N) hT hs hH hx6 hx hL a b
  simp only [e5, e6] at g
  exact dw_Go_Bk o1 h g
theorem dw_Gdrawn (h : dw_RX X R G ((m, s, yy, ho, cl, r), (tx, wt), (tp, tb), im, H)) (ok : dw_Ok ((m, s, yy, ho, cl, r), (tx, wt), (tp, tb), im, H)) (a b : Int32) : dw_Go (M_drawn (dw_mk X R G S N (nI yy)) 0 a b) ((m, s, yy, ho, cl, r), (tx, wt), (tp, tb), im, H) (dw_qdrawn (wt r) cl ho s yy a b) := by
  obtain ⟨hT, hcl, hs, hH, hy, hx6, hx, hL, e5, e6, o1⟩ := dw_all h ok
  have g := dw_Mdrawn (S := S) (N := N) hT hy a b
  simp only [e5, e6] at g
  exact dw_Go_Bk o1 h g
theorem dw_Godds (h : dw_RX X R G ((m, s, yy, ho, cl, r), (tx, wt), (tp, tb), im, H)) (ok : dw_Ok ((m, s, yy, ho, cl, r), (tx, wt), (tp, tb), im, H)) (a b c d : Int32) : dw_Go (M_odds (dw_mk X R G S N (nI yy)) 0 a b c d) ((m, s, yy, ho, cl, r), (tx, wt), (tp, tb), im, H) (dw_qodds (wt r) cl ho s yy a b c d) := by
  obtain ⟨hT, hcl, hs, hH, hy, hx6, hx, hL, e5, e6, o1⟩ := dw_all h ok
  have g := dw_Modds (S := S) (N := N) hT hy a b c d
  simp only [e5, e6] at g
  exact dw_Go_Bk o1 h g
theorem dw_Gfilm (h : dw_RX X R G ((m, s, yy, ho, cl, r), (tx, wt), (tp, tb), im, H)) (ok : dw_Ok ((m, s, yy, ho, cl, r), (tx, wt), (tp, tb), im, H)) (a d n : Int32) : dw_Go (M_film (dw_mk X R G S N (nI yy)) 0 a d n) ((m, s, yy, ho, cl, r), (tx, wt), (tp, tb), im, (dw_qfilm (wt r) cl s yy H a d n).2) (dw_qfilm (wt r) cl s yy H a d n).1 := by
  obtain ⟨hT, hcl, hs, hH, hy, hx6, hx, hL, e5, e6, o1⟩ := dw_all h ok
  have g := dw_Mfilm (S := S) (N := N) hT hs a d n
  simp only [e5, e6] at g
  exact dw_Go_Bs o1 h g
end MC
