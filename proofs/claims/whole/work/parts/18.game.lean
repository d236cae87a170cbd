-- who comes home, reckoned back: the numbers alone
theorem z_max {a b : Int} (ha : rg a) (hb : rg b) : (if zI a < zI b then zI b else zI a) = zI (max a b) := by
  by_cases h : a < b
  · rw [if_pos ((zI_lt ha hb).mpr h), Int.max_eq_right (by omega)]
  · rw [if_neg (fun q => h ((zI_lt ha hb).mp q)), Int.max_eq_left (by omega)]
theorem z_min {a b : Int} (ha : rg a) (hb : rg b) : (if zI b < zI a then zI b else zI a) = zI (min a b) := by
  by_cases h : b < a
  · rw [if_pos ((zI_lt hb ha).mpr h), Int.min_eq_right (by omega)]
  · rw [if_neg (fun q => h ((zI_lt hb ha).mp q)), Int.min_eq_left (by omega)]
/-- the most of f over a set, -1 at least -/
def bmx (S : Nat → Bool) (f : Nat → Int) : Nat → Int
  | 0 => -1
  | k + 1 => if S k then max (bmx S f k) (f k) else bmx S f k
theorem bmx_rg {S : Nat → Bool} {f : Nat → Int} (hf : ∀ k, f k ≤ 1) : ∀ k, -1 ≤ bmx S f k ∧ bmx S f k ≤ 1 := by
  intro k
  induction k with
  | zero => exact ⟨Int.le_refl _, by rw [bmx]; omega⟩
  | succ k ih =>
    rw [bmx]
    have := hf k
    split <;> omega
theorem bmx_mono {S : Nat → Bool} {f : Nat → Int} : ∀ n k, bmx S f k ≤ bmx S f (k + n) := by
  intro n
  induction n with
  | zero => intro k; exact Int.le_refl _
  | succ n ih =>
    intro k
    have := ih k
    rw [← Nat.add_assoc, bmx]
    split <;> omega
/-- a position's man that is told -/
def tm (K : Nat) : Nat := 1 - tl K
def leadK (p : zP) (la : Nat → Int) (K k : Nat) : Int := ldP p (la (tm K)) (cl K (tm K)) k
def mayK (p : zP) (la : Nat → Int) (K : Nat) : Nat → Bool := mayF p (la (tm K)) (cl K (tm K)) (cl K (1 - tm K))
def dnK (p : zP) (la hm : Nat → Int) (v : Nat → Int) (K k : Nat) : Int :=
  if leadK p la K k = -9 then 0
  else if ftP p (leadK p la K k) (hm (tm K)) = 3 then wtK K
  else if ftP p (leadK p la K k) (hm (tm K)) = 2 then -wtK K
  else if ftP p (leadK p la K k) (hm (tm K)) = 1 then v (wcK K (tm K) (leadK p la K k).toNat)
  else v (flipT (wcK K (tm K) (leadK p la K k).toNat))
/-- those left when one is barred -/
def exB (S : Nat → Bool) (b : Int) : Nat → Bool := fun k => S k && !decide ((k : Int) = b)
def lessK (K : Nat) : Nat := if tm K = 0 then K - 256 else K - 1024
def noneB (S : Nat → Bool) : Prop := ∀ k, k < 8 → S k = false
/-- told, when one is barred: nothing more is refused -/
def mostB (p : zP) (la hm : Nat → Int) (v : Nat → Int) (K : Nat) (b : Int) : Int := wtK K * bmx (exB (mayK p la K) b) (fun k => wtK K * dnK p la hm v K k) 8
def refK (p : zP) (la hm : Nat → Int) (v : Nat → Int) (K k : Nat) : Int := mostB p la hm v (lessK K) k
/-- what a told direction is worth for the teller, where it may be refused -/
def tldK (p : zP) (la hm : Nat → Int) (v : Nat → Int) (r : Bool) (K k : Nat) : Int := if r then min (wtK K * dnK p la hm v K k) (wtK K * refK p la hm v K k) else wtK K * dnK p la hm v K k
def rfB (p : zP) (la : Nat → Int) (K k : Nat) : Bool := decide (0 < lf K (tm K)) && decide (oS (exB (mayK p la K) k) 8 ≠ 0)
def mostN (p : zP) (la hm : Nat → Int) (v : Nat → Int) (K : Nat) : Int := wtK K * bmx (mayK p la K) (fun k => tldK p la hm v (rfB p la K k) K k) 8
def gV (p : zP) (la hm : Nat → Int) : Nat → Nat → Int
  | 0, _ => 0
  | n + 1, K => if oS (mayK p la K) 8 = 0 then gV p la hm n (flipT K) else mostN p la hm (gV p la hm n) K
theorem wtK_pm (K : Nat) : wtK K = 1 ∨ wtK K = -1 := by unfold wtK; split <;> simp
theorem dnK_rg {p : zP} {la hm : Nat → Int} {v : Nat → Int} (hv : ∀ K, -1 ≤ v K ∧ v K ≤ 1) (K k : Nat) : -1 ≤ dnK p la hm v K k ∧ dnK p la hm v K k ≤ 1 := by
  have hw := wtK_pm K
  unfold dnK
  split
  · omega
  · split
    · omega
    · split
      · omega
      · split
        · exact hv _
        · exact hv _
theorem wmul_rg {w x : Int} (hw : w = 1 ∨ w = -1) (hx : -1 ≤ x ∧ x ≤ 1) : -1 ≤ w * x ∧ w * x ≤ 1 := by
  rcases hw with h | h <;> subst h <;> omega
theorem mostB_rg {p : zP} {la hm : Nat → Int} {v : Nat → Int} (hv : ∀ K, -1 ≤ v K ∧ v K ≤ 1) (K : Nat) (b : Int) : -1 ≤ mostB p la hm v K b ∧ mostB p la hm v K b ≤ 1 := by
  refine wmul_rg (wtK_pm K) (bmx_rg (fun k => ?_) 8)
  exact (wmul_rg (wtK_pm K) (dnK_rg hv K k)).2
theorem tldK_rg {p : zP} {la hm : Nat → Int} {v : Nat → Int} (hv : ∀ K, -1 ≤ v K ∧ v K ≤ 1) (r : Bool) (K k : Nat) : -1 ≤ tldK p la hm v r K k ∧ tldK p la hm v r K k ≤ 1 := by
  have h1 := wmul_rg (wtK_pm K) (dnK_rg (p := p) (la := la) (hm := hm) hv K k)
  have h2 := wmul_rg (wtK_pm K) (mostB_rg (p := p) (la := la) (hm := hm) hv (lessK K) k)
  unfold tldK refK
  split <;> omega
theorem mostN_rg {p : zP} {la hm : Nat → Int} {v : Nat → Int} (hv : ∀ K, -1 ≤ v K ∧ v K ≤ 1) (K : Nat) : -1 ≤ mostN p la hm v K ∧ mostN p la hm v K ≤ 1 :=
  wmul_rg (wtK_pm K) (bmx_rg (fun k => (tldK_rg hv _ K k).2) 8)
theorem gV_rg (p : zP) (la hm : Nat → Int) : ∀ n K, -1 ≤ gV p la hm n K ∧ gV p la hm n K ≤ 1 := by
  intro n
  induction n with
  | zero => intro K; unfold gV; omega
  | succ n ih =>
    intro K
    rw [gV]
    split
    · exact ih _
    · exact mostN_rg ih K
/-- positions on the board -/
def vK (p : zP) (K : Nat) : Prop := K < 8192 ∧ lf K 0 ≤ 2 ∧ lf K 1 ≤ 2 ∧ (cl K 0 : Int) < p 8 0 * p 9 0 ∧ (cl K 1 : Int) < p 8 0 * p 9 0
theorem flip_f {K : Nat} (hK : K < 8192) : (∀ m, cl (flipT K) m = cl K m) ∧ (∀ m, lf (flipT K) m = lf K m) ∧ tl (flipT K) = 1 - tl K := by
  refine ⟨fun m => ?_, fun m => ?_, ?_⟩
  · unfold cl flipT tl; split <;> split <;> omega
  · unfold lf flipT tl; split <;> split <;> omega
  · unfold flipT tl; split <;> omega
theorem vK_flip {p : zP} {K : Nat} (h : vK p K) : vK p (flipT K) := by
  obtain ⟨h1, h2, h3, h4, h5⟩ := h
  obtain ⟨f1, f2, f3⟩ := flip_f h1
  exact ⟨flipT_lt h1, by rw [f2]; exact h2, by rw [f2]; exact h3, by rw [f1]; exact h4, by rw [f1]; exact h5⟩
theorem wc_f {K m c : Nat} (hK : K < 8192) (hm : m < 2) (hc : c < 16) : cl (wcK K m c) m = c ∧ cl (wcK K m c) (1 - m) = cl K (1 - m) ∧ (∀ j, lf (wcK K m c) j = lf K j) ∧ tl (wcK K m c) = tl K := by
  have e : m = 0 ∨ m = 1 := by omega
  rcases e with e | e <;> subst e
  · refine ⟨?_, ?_, fun j => ?_, ?_⟩
    · simp [cl, wcK]; omega
    · simp [cl, wcK]; omega
    · simp [lf, wcK]; split <;> omega
    · simp [tl, wcK]; omega
  · refine ⟨?_, ?_, fun j => ?_, ?_⟩
    · simp [cl, wcK]; omega
    · simp [cl, wcK]; omega
    · simp [lf, wcK]; split <;> omega
    · simp [tl, wcK]; omega
theorem vK_wc {p : zP} {K m c : Nat} (h : vK p K) (hm : m < 2) (hc : c < 16) (hc2 : (c : Int) < p 8 0 * p 9 0) : vK p (wcK K m c) := by
  obtain ⟨h1, h2, h3, h4, h5⟩ := h
  obtain ⟨f1, f2, f3, f4⟩ := wc_f h1 hm hc
  have e : m = 0 ∨ m = 1 := by omega
  rcases e with e | e <;> subst e
  · exact ⟨wcK_lt h1 hc, by rw [f3]; exact h2, by rw [f3]; exact h3, by rw [f1]; exact hc2, by rw [f2]; exact h5⟩
  · exact ⟨wcK_lt h1 hc, by rw [f3]; exact h2, by rw [f3]; exact h3, by rw [f2]; exact h4, by rw [f1]; exact hc2⟩
theorem less_f {K : Nat} (hK : K < 8192) (h : 0 < lf K (tm K)) : lessK K < 8192 ∧ (∀ m, cl (lessK K) m = cl K m) ∧ tl (lessK K) = tl K ∧ lf (lessK K) (tm K) = lf K (tm K) - 1 ∧ lf (lessK K) (1 - tm K) = lf K (1 - tm K) := by
  have ht := tl_lt K
  have e : tl K = 0 ∨ tl K = 1 := by omega
  unfold lessK tm at *
  rcases e with e | e <;> rw [e] at h ⊢ <;> simp only [Nat.sub_zero, Nat.sub_self, if_true, if_false, Nat.one_ne_zero] at h ⊢ <;> unfold tl at e <;> unfold lf at h ⊢ <;> simp only [if_true, if_false, Nat.one_ne_zero] at h ⊢ <;>
    refine ⟨by omega, fun m => ?_, ?_, ?_, ?_⟩ <;> (try unfold cl) <;> (try unfold tl) <;> (try split) <;> omega
theorem vK_less {p : zP} {K : Nat} (hv : vK p K) (h : 0 < lf K (tm K)) : vK p (lessK K) ∧ tm (lessK K) = tm K := by
  obtain ⟨h1, h2, h3, h4, h5⟩ := hv
  obtain ⟨f1, f2, f3, f4, f5⟩ := less_f h1 h
  have ht := tl_lt K
  refine ⟨⟨f1, ?_, ?_, by rw [f2]; exact h4, by rw [f2]; exact h5⟩, by unfold tm; rw [f3]⟩
  · have e : tm K = 0 ∨ tm K = 1 := by unfold tm; omega
    rcases e with e | e <;> rw [e] at f4 f5 h <;> simp only [Nat.sub_zero, Nat.sub_self] at f4 f5 <;> omega
  · have e : tm K = 0 ∨ tm K = 1 := by unfold tm; omega
    rcases e with e | e <;> rw [e] at f4 f5 h <;> simp only [Nat.sub_zero, Nat.sub_self] at f4 f5 <;> omega
theorem pl_inj0 {n n' t t' l0 l0' l1 l1' z z' : Int} (ht : 0 ≤ t ∧ t ≤ 1) (ht' : 0 ≤ t' ∧ t' ≤ 1) (h0 : 0 ≤ l0 ∧ l0 ≤ 2) (h0' : 0 ≤ l0' ∧ l0' ≤ 2) (h1 : 0 ≤ l1 ∧ l1 ≤ 2) (h1' : 0 ≤ l1' ∧ l1' ≤ 2) (hz : 0 ≤ z ∧ z < 256) (hz' : 0 ≤ z' ∧ z' < 256) (e : ((((n - 1) * 2 + t) * 9 + (l0 * 3 + l1)) * 256 + z) = ((((n' - 1) * 2 + t') * 9 + (l0' * 3 + l1')) * 256 + z')) : n = n' ∧ t = t' ∧ l0 = l0' ∧ l1 = l1' ∧ z = z' := by
  have e1 : z = z' := by omega
  have e2 : ((n - 1) * 2 + t) * 9 + (l0 * 3 + l1) = ((n' - 1) * 2 + t') * 9 + (l0' * 3 + l1') := by omega
  have e3 : l0 * 3 + l1 = l0' * 3 + l1' := by omega
  have e4 : (n - 1) * 2 + t = (n' - 1) * 2 + t' := by omega
  exact ⟨by omega, by omega, by omega, by omega, e1⟩
theorem key_sum {K : Nat} (h : K < 8192) : K = K % 256 + 256 * lf K 0 + 1024 * lf K 1 + 4096 * tl K := by
  unfold lf tl
  simp only [if_true, if_false, Nat.one_ne_zero]
  omega
theorem plK_inj {p : zP} {K K' : Nat} {n n' : Int} (h : vK p K) (h' : vK p K') (e : plK K n = plK K' n') : K = K' ∧ n = n' := by
  obtain ⟨h1, h2, h3, -⟩ := h
  obtain ⟨g1, g2, g3, -⟩ := h'
  have t1 := tl_lt K
  have t2 := tl_lt K'
  unfold plK at e
  obtain ⟨e1, e2, e3, e4, e5⟩ := pl_inj0 (by omega) (by omega) (by omega) (by omega) (by omega) (by omega) (by omega) (by omega) e
  refine ⟨?_, e1⟩
  rw [key_sum h1, key_sum g1]
  omega
theorem plK_rg {p : zP} {K : Nat} {n : Int} (h : vK p K) (hn : 1 ≤ n ∧ n ≤ 4) : 0 ≤ plK K n ∧ plK K n < 18432 := by
  obtain ⟨h1, h2, h3, -⟩ := h
  have := tl_lt K
  unfold plK
  omega
