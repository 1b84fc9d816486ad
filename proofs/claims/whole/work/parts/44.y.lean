/-! ===== the two states ===== -/
def ordOK (r : Nat → Nat) : Prop := ∀ c p, c < 9 → p + 1 < r (108 + c) → fld r c p 3 ≤ fld r c (p + 1) 3
theorem ord_take {r : Nat → Nat} (h : ordOK r) (hr : rowOK r) {c : Nat} (hc : c < 9) : ordOK (takeN r c) := fun b p hb hp => by
  have h3 := hr.2 b hb
  unfold takeN at hp ⊢
  have hp2 : p + 1 < r (108 + b) := by
    by_cases e : 108 + b = 108 + c
    · rw [e, updN_s] at hp; rw [e]; omega
    · rw [updN_n e] at hp; exact hp
  rw [fld_upd (by omega), fld_upd (by omega)]
  exact h b p hb hp2
theorem ord_wearTop {r we : Nat → Nat} (h : ordOK r) (hr : rowOK r) {c : Nat} (hc : c < 9) : ordOK (wearTopN r we c) := by
  unfold wearTopN
  split
  · exact ord_take h hr hc
  · intro b p hb hp
    have h3 := hr.2 b hb
    have h4 := hr.2 c hc
    rw [updN_n (by omega)] at hp
    rw [fld_upd (by omega), fld_upd (by omega)]
    exact h b p hb hp
theorem ord_passC {r we : Nat → Nat} (h : ordOK r) (hr : rowOK r) : ∀ c, c ≤ 9 → ordOK (passC r we c)
  | 0, _ => h
  | c + 1, hc => by
    unfold passC
    split
    · exact ord_passC h hr c (by omega)
    · exact ord_wearTop (ord_passC h hr c (by omega)) (rowOK_passC hr c (by omega)) (by omega)
theorem ord_pass {r we : Nat → Nat} (h : ordOK r) (hr : rowOK r) : ordOK (passN r we) := fun b p hb hp => by
  have h9 := ord_passC (we := we) h hr 9 (by omega)
  have hr9 := rowOK_passC (we := we) hr 9 (by omega)
  unfold passN at hp ⊢
  rw [updN_n (by omega)] at hp
  have h3 := hr9.2 b hb
  rw [fld_upd (by omega), fld_upd (by omega)]
  exact h9 b p hb hp
theorem put_many {r : Nat → Nat} {c kd fm th e : Nat} (hc : c < 9) (h3 : r (108 + c) < 3) : putN r c kd fm th (108 + e) = if e = c then r (108 + c) + 1 else r (108 + e) := by
  unfold putN
  by_cases hec : e = c
  · subst hec; rw [updN_s, if_pos rfl]
  · rw [updN_n (by omega), updN_n (by omega), updN_n (by omega), updN_n (by omega), updN_n (by omega), if_neg hec]
theorem put_fld {r : Nat → Nat} {c kd fm th e p f : Nat} (hc : c < 9) (h3 : r (108 + c) < 3) (he : e < 9) (hp : p < 3) (hf : f < 4) : fld (putN r c kd fm th) e p f = if e = c ∧ p = r (108 + c) then (if f = 0 then kd else if f = 1 then fm else if f = 2 then th else r 117) else fld r e p f := by
  unfold putN
  by_cases hx : e = c ∧ p = r (108 + c)
  · obtain ⟨rfl, rfl⟩ := hx
    rw [if_pos ⟨rfl, rfl⟩]
    unfold fld
    rcases (show f = 0 ∨ f = 1 ∨ f = 2 ∨ f = 3 by omega) with rfl | rfl | rfl | rfl
    · rw [updN_n (by omega), updN_n (by omega), updN_n (by omega), updN_n (by omega), updN_s]; simp
    · rw [updN_n (by omega), updN_n (by omega), updN_n (by omega), updN_s]; simp
    · rw [updN_n (by omega), updN_n (by omega), updN_s]; simp
    · rw [updN_n (by omega), updN_s]; simp
  · rw [if_neg hx, fld_upd (by omega), fld_upd (by omega), fld_upd (by omega), fld_upd (by omega), fld_upd (by omega)]
theorem put_year {r : Nat → Nat} {c kd fm th : Nat} (hc : c < 9) (h3 : r (108 + c) < 3) : putN r c kd fm th 117 = r 117 := by
  unfold putN
  rw [updN_n (by omega), updN_n (by omega), updN_n (by omega), updN_n (by omega), updN_n (by omega)]
theorem since_put {r : Nat → Nat} (h : sinceOK r) (hr : rowOK r) {c kd fm th : Nat} (hc : c < 9) (h3 : r (108 + c) < 3) : sinceOK (putN r c kd fm th) := fun b p hb hp => by
  have hb3 := hr.2 b hb
  rw [put_many hc h3] at hp
  rw [put_year hc h3]
  by_cases hx : b = c ∧ p = r (108 + c)
  · rw [put_fld hc h3 hb (by omega) (by decide), if_pos hx]
    simp
  · have hp2 : p < r (108 + b) := by
      by_cases hec : b = c
      · rw [if_pos hec] at hp
        have : p ≠ r (108 + c) := fun q => hx ⟨hec, q⟩
        rw [hec]; omega
      · rw [if_neg hec] at hp; exact hp
    rw [put_fld hc h3 hb (by omega) (by decide), if_neg hx]
    exact h b p hb hp2
theorem ord_put {r : Nat → Nat} (h : ordOK r) (hs : sinceOK r) (hr : rowOK r) {c kd fm th : Nat} (hc : c < 9) (h3 : r (108 + c) < 3) : ordOK (putN r c kd fm th) := fun b p hb hp => by
  have hb3 := hr.2 b hb
  rw [put_many hc h3] at hp
  have hp2 : p < r (108 + b) := by
    by_cases hec : b = c
    · rw [if_pos hec] at hp; rw [hec]; omega
    · rw [if_neg hec] at hp; omega
  have hnx : ¬ (b = c ∧ p = r (108 + c)) := fun q => by
    have h1 := q.1; have h2 := q.2; rw [h1] at hp2; omega
  rw [put_fld (p := p) hc h3 hb (by omega) (by decide), if_neg hnx]
  by_cases hx : b = c ∧ p + 1 = r (108 + c)
  · have hp3 : p + 1 < 3 := by omega
    rw [put_fld hc h3 hb hp3 (by decide), if_pos hx]
    simp
    exact hs b p hb hp2
  · have hp4 : p + 1 < r (108 + b) := by
      by_cases hec : b = c
      · rw [if_pos hec] at hp
        have : p + 1 ≠ r (108 + c) := fun q => hx ⟨hec, q⟩
        rw [hec]; omega
      · rw [if_neg hec] at hp; exact hp
    rw [put_fld hc h3 hb (by omega) (by decide), if_neg hx]
    exact h b p hb hp4
/-- a good row of a sock, of a year of at most Y -/
def GR (Y : Nat) (r : Nat → Nat) : Prop := rowOK r ∧ rowZ r ∧ sinceOK r ∧ ordOK r ∧ r 117 ≤ Y
theorem GR.mono {Y Y' : Nat} {r : Nat → Nat} (h : GR Y r) (hY : Y ≤ Y') : GR Y' r := ⟨h.1, h.2.1, h.2.2.1, h.2.2.2.1, Nat.le_trans h.2.2.2.2 hY⟩
theorem GR_put {Y : Nat} {r : Nat → Nat} (h : GR Y r) {c kd fm th : Nat} (hc : c < 9) (h3 : r (108 + c) < 3) (h1 : kd < 1048576) (h2 : fm < 1048576) (h4 : th < 1048576) : GR Y (putN r c kd fm th) :=
  ⟨rowOK_put h.1 hc h3 h1 h2 h4, rowZ_put h.2.1 hc h3, since_put h.2.2.1 h.1 hc h3, ord_put h.2.2.2.1 h.2.2.1 h.1 hc h3, by rw [put_year hc h3]; exact h.2.2.2.2⟩
theorem GR_take {Y : Nat} {r : Nat → Nat} (h : GR Y r) {c : Nat} (hc : c < 9) : GR Y (takeN r c) :=
  ⟨rowOK_take h.1 hc, rowZ_take h.2.1 hc, since_take h.2.2.1 h.1 hc, ord_take h.2.2.2.1 h.1 hc, by unfold takeN; rw [updN_n (by omega)]; exact h.2.2.2.2⟩
theorem GR_pass {Y : Nat} {r we : Nat → Nat} (h : GR Y r) (hY : Y + 1 < 1048576) : GR (Y + 1) (passN r we) := by
  have := h.2.2.2.2
  refine ⟨rowOK_pass h.1 (by omega), rowZ_pass h.2.1 h.1, since_pass h.2.2.1 h.1, ord_pass h.2.2.2.1 h.1, ?_⟩
  unfold passN
  rw [updN_s, passC_year h.1 9 (by omega)]
  omega
theorem renewC_at {r : Nat → Nat} : ∀ n j, renewC r n j = if 108 ≤ j ∧ j < 108 + n then 0 else r j
  | 0, j => by rw [if_neg (by omega)]; rfl
  | n + 1, j => by
    unfold renewC
    by_cases e : j = 108 + n
    · rw [e, updN_s, if_pos (by omega)]
    · rw [updN_n e, renewC_at n j]
      by_cases h : 108 ≤ j ∧ j < 108 + n
      · rw [if_pos h, if_pos (by omega)]
      · rw [if_neg h, if_neg (by omega)]
theorem onesC_at {we : Nat → Nat} : ∀ n j, onesC we n j = if j < n then 1 else we j
  | 0, j => by rw [if_neg (by omega)]; rfl
  | n + 1, j => by
    unfold onesC
    by_cases e : j = n
    · rw [e, updN_s, if_pos (by omega)]
    · rw [updN_n e, onesC_at n j]
      by_cases h : j < n
      · rw [if_pos h, if_pos (by omega)]
      · rw [if_neg h, if_neg (by omega)]
theorem ren_many {r : Nat → Nat} {y c : Nat} (hc : c < 9) : updN (renewC r 9) 117 y (108 + c) = 0 := by
  rw [updN_n (by omega), renewC_at, if_pos (by omega)]
theorem GR_renew {Y : Nat} {r : Nat → Nat} (h : rowT r) {y : Nat} (hy : y ≤ Y) (hY : Y < 1048576) : GR Y (updN (renewC r 9) 117 y) := by
  refine ⟨⟨fun j => ?_, fun c hc => by rw [ren_many hc]; omega⟩, fun j hj => ?_, fun c p hc hp => by rw [ren_many hc] at hp; omega, fun c p hc hp => by rw [ren_many hc] at hp; omega, by rw [updN_s]; exact hy⟩
  · unfold updN
    split
    · omega
    · rw [renewC_at]
      split
      · decide
      · exact h.2 j
  · rw [updN_n (by omega), renewC_at, if_neg (by omega)]
    exact h.1 j hj
theorem weZ_ones {we : Nat → Nat} (h : weZ we) : weZ (onesC we 9) := fun j hj => by rw [onesC_at, if_neg (by omega)]; exact h j hj
theorem we5_ones {we : Nat → Nat} (h : weZ we) : ∀ j, onesC we 9 j ≤ 5 := fun j => by
  rw [onesC_at]
  split
  · decide
  · rw [h j (by omega)]; decide
/-- the kept row in the ring's place s -/
def kRow (kept : Nat → Nat) (s : Nat) : Nat → Nat := fun j => if j < 118 then kept (s * 118 + j) else 0
theorem kRow_keep {r kept : Nat → Nat} {nw s : Nat} (hz : rowZ r) : kRow (keptN r kept nw) s = if s = (nw + 1) % 8 then r else kRow kept s := by
  by_cases e : s = (nw + 1) % 8
  · rw [if_pos e]
    funext j
    unfold kRow keptN cpyN
    by_cases hj : j < 118
    · rw [if_pos hj, ← e, if_pos (by omega)]
      congr 1; omega
    · rw [if_neg hj, hz j (by omega)]
  · rw [if_neg e]
    funext j
    unfold kRow keptN cpyN
    by_cases hj : j < 118
    · rw [if_pos hj, if_pos hj, if_neg (by omega)]
    · rw [if_neg hj, if_neg hj]
theorem backN_eq {r kept : Nat → Nat} {nw : Nat} (hz : rowZ r) : backN r kept nw = kRow kept nw := by
  funext j
  unfold kRow backN cpyN
  by_cases hj : j < 118
  · rw [if_pos (by omega), if_pos hj]; congr 1
  · rw [if_neg (by omega), if_neg hj, hz j (by omega)]
/-- a good state -/
def GS (Y : Nat) (we r seen kept : Nat → Nat) (rd nw ud : Nat) : Prop :=
  GR Y r ∧ (∀ j, we j ≤ 5) ∧ weZ we ∧ (∀ j, seen j ≤ 30) ∧ (∀ j, 18 ≤ j → seen j = 0) ∧ (∀ s, s < 8 → GR Y (kRow kept s)) ∧ (∀ j, 944 ≤ j → kept j = 0) ∧ rd ≤ 6 ∧ nw < 8 ∧ ud ≤ 8
theorem GS.mono {Y Y' : Nat} {we r seen kept : Nat → Nat} {rd nw ud : Nat} (h : GS Y we r seen kept rd nw ud) (hY : Y ≤ Y') : GS Y' we r seen kept rd nw ud := by
  obtain ⟨h1, h2, h3, h4, h5, h6, h7⟩ := h
  exact ⟨h1.mono hY, h2, h3, h4, h5, fun s hs => (h6 s hs).mono hY, h7⟩
/-- the reference's block from place B on holds the class's state -/
def RS (w : Nat → Nat) (B : Nat) (we r seen kept : Nat → Nat) (rd nw ud : Nat) : Prop :=
  RW w B r we ∧ w (B + 127) = rd ∧ (∀ j, j < 3 * rd → w (B + 128 + j) = seen j) ∧ w (B + 146) = ud ∧ ∀ t, t < ud → RC w (B + 147 + 118 * t) (kRow kept ((nw + 9 + t - ud) % 8))
theorem RS.keep {w w' : Nat → Nat} {B Y : Nat} {we r seen kept : Nat → Nat} {rd nw ud : Nat} (h : RS w B we r seen kept rd nw ud) (g : GS Y we r seen kept rd nw ud) (hk : ∀ j, B ≤ j → j < B + 1091 → w' j = w j) : RS w' B we r seen kept rd nw ud := by
  obtain ⟨h1, h2, h3, h4, h5⟩ := h
  obtain ⟨g1, -, -, -, -, g6, -, g8, g9, g10⟩ := g
  refine ⟨h1.kept g1.1 (fun j a b => hk j a (by omega)), by rw [hk _ (by omega) (by omega)]; exact h2, fun j hj => by rw [hk _ (by omega) (by omega)]; exact h3 j hj, by rw [hk _ (by omega) (by omega)]; exact h4, fun t ht => (h5 t ht).kept (g6 _ (Nat.mod_lt _ (by decide))).1 (fun j a b => hk j (by omega) (by omega))⟩
theorem RC_copy {w w' : Nat → Nat} {s d : Nat} {r : Nat → Nat} (h : RC w s r) (hr : rowOK r) (e : ∀ j, j < 118 → w' (d + j) = w (s + j)) : RC w' d r := by
  refine ⟨(e 0 (by omega)).trans h.1, fun c hc => ?_, fun c p f hc hp hf => ?_⟩
  · have := e (1 + c) (by omega)
    rw [show d + 1 + c = d + (1 + c) by omega, this, show s + (1 + c) = s + 1 + c by omega]
    exact h.2.1 c hc
  · have h3 := hr.2 c hc
    have := e (10 + 12 * c + 4 * p + f) (by omega)
    rw [show d + (10 + 12 * c + 4 * p) + f = d + (10 + 12 * c + 4 * p + f) by omega, this, show s + (10 + 12 * c + 4 * p + f) = s + (10 + 12 * c + 4 * p) + f by omega]
    exact h.2.2 c p f hc hp hf
theorem RW_copy' {w w' : Nat → Nat} {s d : Nat} {r we : Nat → Nat} (h : RW w s r we) (hr : rowOK r) (e : ∀ j, j < 127 → w' (d + j) = w (s + j)) : RW w' d r we := by
  refine ⟨RC_copy h.1 hr (fun j hj => e j (by omega)), fun c hc => ?_⟩
  have := e (118 + c) (by omega)
  rw [show d + 118 + c = d + (118 + c) by omega, this, show s + (118 + c) = s + 118 + c by omega]
  exact h.2 c hc
theorem RS_copy {w w' : Nat → Nat} {s d Y : Nat} {we r seen kept : Nat → Nat} {rd nw ud : Nat} (h : RS w s we r seen kept rd nw ud) (g : GS Y we r seen kept rd nw ud) (e : ∀ j, j < 1091 → w' (d + j) = w (s + j)) : RS w' d we r seen kept rd nw ud := by
  obtain ⟨h1, h2, h3, h4, h5⟩ := h
  obtain ⟨g1, -, -, -, -, g6, -, g8, g9, g10⟩ := g
  refine ⟨RW_copy' h1 g1.1 (fun j hj => e j (by omega)), (e 127 (by omega)).trans h2, fun j hj => ?_, (e 146 (by omega)).trans h4, fun t ht => RC_copy (h5 t ht) (g6 _ (Nat.mod_lt _ (by decide))).1 (fun j hj => ?_)⟩
  · have := e (128 + j) (by omega)
    rw [show d + 128 + j = d + (128 + j) by omega, this, show s + (128 + j) = s + 128 + j by omega]
    exact h3 j hj
  · have := e (147 + 118 * t + j) (by omega)
    rw [show d + 147 + 118 * t + j = d + (147 + 118 * t + j) by omega, this]
    congr 1; omega
/-- minding: the reference's stack takes one more -/
theorem RS_mind {w w' : Nat → Nat} {Y : Nat} {we r seen kept : Nat → Nat} {rd nw ud : Nat} (h : RS w 0 we r seen kept rd nw ud) (g : GS Y we r seen kept rd nw ud)
    (e0 : ∀ j, j < 146 → w' j = w j) (e1 : w' 146 = min (ud + 1) 8)
    (e2 : ∀ t j, t < min (ud + 1) 8 - 1 → j < 118 → w' (147 + 118 * t + j) = w (147 + 118 * (if ud = 8 then t + 1 else t) + j))
    (e3 : ∀ j, j < 118 → w' (147 + 118 * (min (ud + 1) 8 - 1) + j) = w j) : RS w' 0 we r seen (keptN r kept nw) rd ((nw + 1) % 8) (min (ud + 1) 8) := by
  obtain ⟨h1, h2, h3, h4, h5⟩ := h
  obtain ⟨g1, -, -, -, -, g6, -, g8, g9, g10⟩ := g
  refine ⟨h1.kept g1.1 (fun j _ b => e0 j (by omega)), (e0 _ (by omega)).trans h2, fun j hj => (e0 _ (by omega)).trans (h3 j hj), e1, fun t ht => ?_⟩
  rw [kRow_keep g1.2.1]
  by_cases hl : t = min (ud + 1) 8 - 1
  · rw [if_pos (by omega)]
    refine RC_copy h1.1 g1.1 (fun j hj => ?_)
    rw [hl, Nat.zero_add, Nat.zero_add]
    exact e3 j hj
  · rw [if_neg (by omega)]
    have hq : ((nw + 1) % 8 + 9 + t - min (ud + 1) 8) % 8 = (nw + 9 + (if ud = 8 then t + 1 else t) - ud) % 8 := by
      split <;> omega
    rw [hq]
    refine RC_copy (h5 _ (by split <;> omega)) (g6 _ (Nat.mod_lt _ (by decide))).1 (fun j hj => ?_)
    rw [Nat.zero_add]
    exact e2 t j (by omega) hj
theorem GS_keep {Y : Nat} {we r seen kept : Nat → Nat} {rd nw ud : Nat} (g : GS Y we r seen kept rd nw ud) : GS Y we r seen (keptN r kept nw) rd ((nw + 1) % 8) (min (ud + 1) 8) := by
  obtain ⟨g1, g2, g3, g4, g5, g6, g7, g8, g9, g10⟩ := g
  refine ⟨g1, g2, g3, g4, g5, fun s hs => ?_, fun j hj => ?_, g8, Nat.mod_lt _ (by decide), Nat.min_le_right _ _⟩
  · rw [kRow_keep g1.2.1]
    split
    · exact g1
    · exact g6 s hs
  · unfold keptN cpyN
    rw [if_neg (by omega)]
    exact g7 j hj
theorem GS.row {Y : Nat} {we r seen kept r' : Nat → Nat} {rd nw ud : Nat} (g : GS Y we r seen kept rd nw ud) (h : GR Y r') : GS Y we r' seen kept rd nw ud := ⟨h, g.2⟩
theorem RS.row {w : Nat → Nat} {B : Nat} {we r seen kept r' we' : Nat → Nat} {rd nw ud : Nat} (g : RS w B we r seen kept rd nw ud) (h : RW w B r' we') : RS w B we' r' seen kept rd nw ud := ⟨h, g.2⟩
theorem RS_put {w : Nat → Nat} {Y : Nat} {we r seen kept : Nat → Nat} {rd nw ud : Nat} (h : RS w 0 we r seen kept rd nw ud) (g : GS Y we r seen kept rd nw ud) {w' r' we' : Nat → Nat} (hw : RW w' 0 r' we') (ho : ∀ j, 127 ≤ j → j < 1091 → w' j = w j) : RS w' 0 we' r' seen kept rd nw ud := by
  obtain ⟨h1, h2, h3, h4, h5⟩ := h
  obtain ⟨g1, -, -, -, -, g6, -, g8, g9, g10⟩ := g
  exact ⟨hw, (ho _ (by omega) (by omega)).trans h2, fun j hj => (ho _ (by omega) (by omega)).trans (h3 j hj), (ho _ (by omega) (by omega)).trans h4, fun t ht => (h5 t ht).kept (g6 _ (Nat.mod_lt _ (by decide))).1 (fun j a b => ho j (by omega) (by omega))⟩
theorem RS_undo {w w' : Nat → Nat} {Y : Nat} {we r seen kept : Nat → Nat} {rd nw ud : Nat} (h : RS w 0 we r seen kept rd nw ud) (g : GS Y we r seen kept rd nw ud) (h0 : 0 < ud)
    (e0 : ∀ j, 118 ≤ j → j < 1091 → j ≠ 146 → w' j = w j) (e1 : w' 146 = ud - 1) (e2 : ∀ j, j < 118 → w' j = w (147 + 118 * (ud - 1) + j)) : RS w' 0 we (backN r kept nw) seen kept rd ((nw + 7) % 8) (ud - 1) := by
  obtain ⟨h1, h2, h3, h4, h5⟩ := h
  obtain ⟨g1, -, -, -, -, g6, -, g8, g9, g10⟩ := g
  rw [backN_eq g1.2.1]
  refine ⟨⟨RC_copy (h5 (ud - 1) (by omega)) (g6 _ (Nat.mod_lt _ (by decide))).1 (fun j hj => by rw [Nat.zero_add, Nat.zero_add]; exact e2 j hj) |> fun q => by rwa [show (nw + 9 + (ud - 1) - ud) % 8 = nw by omega] at q, fun c hc => (e0 _ (by omega) (by omega) (by omega)).trans (h1.2 c hc)⟩, (e0 _ (by omega) (by omega) (by omega)).trans h2, fun j hj => (e0 _ (by omega) (by omega) (by omega)).trans (h3 j hj), e1, fun t ht => ?_⟩
  rw [show ((nw + 7) % 8 + 9 + t - (ud - 1)) % 8 = (nw + 9 + t - ud) % 8 by omega]
  exact (h5 t (by omega)).kept (g6 _ (Nat.mod_lt _ (by decide))).1 (fun j a b => e0 j (by omega) (by omega) (by omega))
theorem GS_undo {Y : Nat} {we r seen kept : Nat → Nat} {rd nw ud : Nat} (g : GS Y we r seen kept rd nw ud) : GS Y we (backN r kept nw) seen kept rd ((nw + 7) % 8) (ud - 1) := by
  obtain ⟨g1, g2, g3, g4, g5, g6, g7, g8, g9, g10⟩ := g
  exact ⟨by rw [backN_eq g1.2.1]; exact g6 nw g9, g2, g3, g4, g5, g6, g7, g8, Nat.mod_lt _ (by decide), by omega⟩
theorem GS_years {we : Nat → Nat} {seen : Nat → Nat} {rd : Nat} {s : (Nat → Nat) × (Nat → Nat) × Nat × Nat} {Y : Nat} (g : GS Y we s.1 seen s.2.1 rd s.2.2.1 s.2.2.2) (hY : Y + 20 < 1048576) : ∀ i, i ≤ 20 → GS (Y + i) we (yk we s i).1 seen (yk we s i).2.1 rd (yk we s i).2.2.1 (yk we s i).2.2.2
  | 0, _ => g
  | i + 1, hi => by
    have ih := GS_years g hY i (by omega)
    exact ((GS_keep ih).mono (Nat.le_succ _)).row (GR_pass ih.1 (by omega))
theorem RW_beg {w : Nat → Nat} {b y : Nat} {r we : Nat → Nat} : RW (begW w b y) b (updN (renewC r 9) 117 y) (onesC we 9) := by
  refine ⟨⟨?_, fun c hc => ?_, fun c p f hc hp hf => ?_⟩, fun c hc => ?_⟩
  · unfold begW
    rw [if_pos (by omega), if_pos rfl, updN_s]
  · rw [ren_many hc]
    unfold begW
    rw [if_pos (by omega), if_neg (by omega), if_neg (by omega)]
  · rw [ren_many hc] at hp; omega
  · rw [onesC_at, if_pos hc]
    unfold begW
    rw [if_pos (by omega), if_neg (by omega), if_pos (by omega)]
theorem RS_beg {w : Nat → Nat} {y : Nat} {r we seen kept : Nat → Nat} {nw : Nat} : RS (begW w 0 y) 0 (onesC we 9) (updN (renewC r 9) 117 y) seen kept 0 nw 0 := by
  refine ⟨RW_beg, ?_, fun j hj => by omega, ?_, fun t ht => by omega⟩
  · unfold begW
    rw [if_pos (by omega), if_neg (by omega), if_neg (by omega)]
  · unfold begW
    rw [if_pos (by omega), if_neg (by omega), if_neg (by omega)]
theorem GS_beg {Y : Nat} {we r seen kept : Nat → Nat} {rd nw ud : Nat} (g : GS Y we r seen kept rd nw ud) {y : Nat} (hy : y ≤ Y) (hY : Y < 1048576) : GS Y (onesC we 9) (updN (renewC r 9) 117 y) seen kept 0 nw 0 := by
  obtain ⟨g1, g2, g3, g4, g5, g6, g7, g8, g9, g10⟩ := g
  exact ⟨GR_renew ⟨g1.2.1, g1.1.1⟩ hy hY, we5_ones g3, weZ_ones g3, g4, g5, g6, g7, by omega, g9, by omega⟩
theorem GS_wear {Y : Nat} {we r seen kept : Nat → Nat} {rd nw ud : Nat} (g : GS Y we r seen kept rd nw ud) {c v : Nat} (hc : c < 9) (hv : v ≤ 5) : GS Y (updN we c v) r seen kept rd nw ud := by
  obtain ⟨g1, g2, g3, g7⟩ := g
  refine ⟨g1, fun j => ?_, fun j hj => by rw [updN_n (by omega)]; exact g3 j hj, g7⟩
  unfold updN
  split
  · exact hv
  · exact g2 j
theorem RW_setWear {w : Nat → Nat} {b : Nat} {r we : Nat → Nat} (h : RW w b r we) (hr : rowOK r) {c v : Nat} (hc : c < 9) : RW (updN w (b + 118 + c) v) b r (updN we c v) := by
  refine ⟨h.1.kept hr (fun j _ hb => updN_n (by omega)), fun e he => ?_⟩
  by_cases hec : e = c
  · rw [hec, updN_s, updN_s]
  · rw [updN_n (by omega), updN_n hec]; exact h.2 e he
theorem GS_reading {Y : Nat} {we r seen kept : Nat → Nat} {rd nw ud : Nat} (g : GS Y we r seen kept rd nw ud) {c m v : Nat} (h1 : c < 9) (h2 : m < 21) (h3 : v ≤ 30) (h4 : rd < 6) : GS Y we r (seenN seen rd c m v) kept (rd + 1) nw ud := by
  obtain ⟨g1, g2, g3, g4, g5, g6, g7, g8, g9, g10⟩ := g
  refine ⟨g1, g2, g3, fun j => ?_, fun j hj => ?_, g6, g7, by omega, g9, g10⟩
  · unfold seenN updN
    repeat' split
    all_goals first | omega | exact g4 j
  · unfold seenN
    rw [updN_n (by omega), updN_n (by omega), updN_n (by omega)]
    exact g5 j hj
theorem RS_reading {w : Nat → Nat} {Y : Nat} {we r seen kept : Nat → Nat} {rd nw ud : Nat} (h : RS w 0 we r seen kept rd nw ud) (g : GS Y we r seen kept rd nw ud) {c m v : Nat} (h4 : rd < 6) : RS (updN (updN (updN (updN w (128 + 3 * rd) c) (128 + 3 * rd + 1) m) (128 + 3 * rd + 2) v) 127 (rd + 1)) 0 we r (seenN seen rd c m v) kept (rd + 1) nw ud := by
  obtain ⟨e1, e2, e3, e4, e5⟩ := h
  obtain ⟨g1, -, -, -, -, g6, -, g8, g9, g10⟩ := g
  refine ⟨e1.kept g1.1 (fun j _ hb => by rw [updN_n (by omega), updN_n (by omega), updN_n (by omega), updN_n (by omega)]), by rw [updN_s], fun j hj => ?_, ?_, fun t ht => (e5 t ht).kept (g6 _ (Nat.mod_lt _ (by decide))).1 (fun j a b => by rw [updN_n (by omega), updN_n (by omega), updN_n (by omega), updN_n (by omega)])⟩
  · rw [updN_n (by omega)]
    unfold seenN
    by_cases q1 : j = 3 * rd + 2
    · rw [q1, updN_s, show 0 + 128 + (3 * rd + 2) = 128 + 3 * rd + 2 by omega, updN_s]
    · rw [updN_n (by omega), updN_n q1]
      by_cases q2 : j = 3 * rd + 1
      · rw [q2, updN_s, show 0 + 128 + (3 * rd + 1) = 128 + 3 * rd + 1 by omega, updN_s]
      · rw [updN_n (by omega), updN_n q2]
        by_cases q3 : j = 3 * rd
        · rw [q3, updN_s, updN_s]
        · rw [updN_n (by omega), updN_n q3]
          exact e3 j (by omega)
  · rw [updN_n (by omega), updN_n (by omega), updN_n (by omega), updN_n (by omega)]
    exact e4
theorem GS_forget {Y : Nat} {we r seen kept : Nat → Nat} {rd nw ud : Nat} (g : GS Y we r seen kept rd nw ud) : GS Y we r seen kept 0 nw ud := by
  obtain ⟨g1, g2, g3, g4, g5, g6, g7, g8, g9, g10⟩ := g
  exact ⟨g1, g2, g3, g4, g5, g6, g7, by omega, g9, g10⟩
theorem RS_forget {w : Nat → Nat} {Y : Nat} {we r seen kept : Nat → Nat} {rd nw ud : Nat} (h : RS w 0 we r seen kept rd nw ud) (g : GS Y we r seen kept rd nw ud) : RS (updN w 127 0) 0 we r seen kept 0 nw ud := by
  obtain ⟨e1, e2, e3, e4, e5⟩ := h
  obtain ⟨g1, -, -, -, -, g6, -, g8, g9, g10⟩ := g
  exact ⟨e1.kept g1.1 (fun j _ hb => updN_n (by omega)), updN_s, fun j hj => by omega, (updN_n (by omega)).trans e4, fun t ht => (e5 t ht).kept (g6 _ (Nat.mod_lt _ (by decide))).1 (fun j a b => updN_n (by omega))⟩
theorem cpy_n {n : Nat} {r t : Nat → Nat} (h : ∀ j, n ≤ j → r j = 0) (ht : ∀ j, n ≤ j → t j = 0) : cpyN r t 0 0 n = r := by
  funext j
  unfold cpyN
  by_cases hj : j < n
  · rw [if_pos ⟨Nat.zero_le _, by omega⟩]; simp
  · rw [if_neg (by omega), ht j (by omega), h j (by omega)]

