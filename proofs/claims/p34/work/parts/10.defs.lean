/-! THE STATE OF A BILLING, AND WHAT EACH CALL DOES TO IT (in Int32 as the bytecode counts): one value for the class and for the reference -/
abbrev FF : Type := Nat → Int32
abbrev MM : Type := (FF × FF × FF × FF × FF) × Nat × (FF × FF × Nat) × FF × Int32 × (FF × FF × FF × FF) × Nat
def m_lv (M : MM) : FF := M.1.1
def m_le (M : MM) : FF := M.1.2.1
def m_lw (M : MM) : FF := M.1.2.2.1
def m_lb (M : MM) : FF := M.1.2.2.2.1
def m_lh (M : MM) : FF := M.1.2.2.2.2
def m_ln (M : MM) : Nat := M.2.1
def m_st (M : MM) : FF := M.2.2.1.1
def m_sr (M : MM) : FF := M.2.2.1.2.1
def m_sn (M : MM) : Nat := M.2.2.1.2.2
def m_rt (M : MM) : FF := M.2.2.2.1
def m_hb (M : MM) : Int32 := M.2.2.2.2.1
def m_as (M : MM) : FF := M.2.2.2.2.2.1.1
def m_aa (M : MM) : FF := M.2.2.2.2.2.1.2.1
def m_ab (M : MM) : FF := M.2.2.2.2.2.1.2.2.1
def m_ah (M : MM) : FF := M.2.2.2.2.2.1.2.2.2
def m_an (M : MM) : Nat := M.2.2.2.2.2.2
def mk (lv le lw lb lh : FF) (ln : Nat) (st sr : FF) (sn : Nat) (rt : FF) (hb : Int32) (as aa ab ah : FF) (an : Nat) : MM := ((lv, le, lw, lb, lh), ln, (st, sr, sn), rt, hb, (as, aa, ab, ah), an)
def s_lv (M : MM) (f : FF) : MM := mk f (m_le M) (m_lw M) (m_lb M) (m_lh M) (m_ln M) (m_st M) (m_sr M) (m_sn M) (m_rt M) (m_hb M) (m_as M) (m_aa M) (m_ab M) (m_ah M) (m_an M)
def s_le (M : MM) (f : FF) : MM := mk (m_lv M) f (m_lw M) (m_lb M) (m_lh M) (m_ln M) (m_st M) (m_sr M) (m_sn M) (m_rt M) (m_hb M) (m_as M) (m_aa M) (m_ab M) (m_ah M) (m_an M)
def s_lw (M : MM) (f : FF) : MM := mk (m_lv M) (m_le M) f (m_lb M) (m_lh M) (m_ln M) (m_st M) (m_sr M) (m_sn M) (m_rt M) (m_hb M) (m_as M) (m_aa M) (m_ab M) (m_ah M) (m_an M)
def s_lb (M : MM) (f : FF) : MM := mk (m_lv M) (m_le M) (m_lw M) f (m_lh M) (m_ln M) (m_st M) (m_sr M) (m_sn M) (m_rt M) (m_hb M) (m_as M) (m_aa M) (m_ab M) (m_ah M) (m_an M)
def s_lh (M : MM) (f : FF) : MM := mk (m_lv M) (m_le M) (m_lw M) (m_lb M) f (m_ln M) (m_st M) (m_sr M) (m_sn M) (m_rt M) (m_hb M) (m_as M) (m_aa M) (m_ab M) (m_ah M) (m_an M)
def s_ln (M : MM) (n : Nat) : MM := mk (m_lv M) (m_le M) (m_lw M) (m_lb M) (m_lh M) n (m_st M) (m_sr M) (m_sn M) (m_rt M) (m_hb M) (m_as M) (m_aa M) (m_ab M) (m_ah M) (m_an M)
def s_st (M : MM) (f : FF) : MM := mk (m_lv M) (m_le M) (m_lw M) (m_lb M) (m_lh M) (m_ln M) f (m_sr M) (m_sn M) (m_rt M) (m_hb M) (m_as M) (m_aa M) (m_ab M) (m_ah M) (m_an M)
def s_sr (M : MM) (f : FF) : MM := mk (m_lv M) (m_le M) (m_lw M) (m_lb M) (m_lh M) (m_ln M) (m_st M) f (m_sn M) (m_rt M) (m_hb M) (m_as M) (m_aa M) (m_ab M) (m_ah M) (m_an M)
def s_sn (M : MM) (n : Nat) : MM := mk (m_lv M) (m_le M) (m_lw M) (m_lb M) (m_lh M) (m_ln M) (m_st M) (m_sr M) n (m_rt M) (m_hb M) (m_as M) (m_aa M) (m_ab M) (m_ah M) (m_an M)
def s_rt (M : MM) (f : FF) : MM := mk (m_lv M) (m_le M) (m_lw M) (m_lb M) (m_lh M) (m_ln M) (m_st M) (m_sr M) (m_sn M) f (m_hb M) (m_as M) (m_aa M) (m_ab M) (m_ah M) (m_an M)
def s_hb (M : MM) (x : Int32) : MM := mk (m_lv M) (m_le M) (m_lw M) (m_lb M) (m_lh M) (m_ln M) (m_st M) (m_sr M) (m_sn M) (m_rt M) x (m_as M) (m_aa M) (m_ab M) (m_ah M) (m_an M)
def s_as (M : MM) (f : FF) : MM := mk (m_lv M) (m_le M) (m_lw M) (m_lb M) (m_lh M) (m_ln M) (m_st M) (m_sr M) (m_sn M) (m_rt M) (m_hb M) f (m_aa M) (m_ab M) (m_ah M) (m_an M)
def s_aa (M : MM) (f : FF) : MM := mk (m_lv M) (m_le M) (m_lw M) (m_lb M) (m_lh M) (m_ln M) (m_st M) (m_sr M) (m_sn M) (m_rt M) (m_hb M) (m_as M) f (m_ab M) (m_ah M) (m_an M)
def s_ab (M : MM) (f : FF) : MM := mk (m_lv M) (m_le M) (m_lw M) (m_lb M) (m_lh M) (m_ln M) (m_st M) (m_sr M) (m_sn M) (m_rt M) (m_hb M) (m_as M) (m_aa M) f (m_ah M) (m_an M)
def s_ah (M : MM) (f : FF) : MM := mk (m_lv M) (m_le M) (m_lw M) (m_lb M) (m_lh M) (m_ln M) (m_st M) (m_sr M) (m_sn M) (m_rt M) (m_hb M) (m_as M) (m_aa M) (m_ab M) f (m_an M)
def s_an (M : MM) (n : Nat) : MM := mk (m_lv M) (m_le M) (m_lw M) (m_lb M) (m_lh M) (m_ln M) (m_st M) (m_sr M) (m_sn M) (m_rt M) (m_hb M) (m_as M) (m_aa M) (m_ab M) (m_ah M) n
/-- the class's cells, the reference's cells -/
def w0 (h : Nat → Nat) (cA : ClassId) (M : MM) : va_W := [(h 0, .inr (0, [.ref (h 1), .ref (h 2), .ref (h 3), .ref (h 4), .ref (h 5), .int (nI (m_ln M)), .ref (h 6), .ref (h 7), .int (nI (m_sn M)), .int (m_hb M), .ref (h 8), .ref (h 9), .ref (h 10), .ref (h 11), .int (nI (m_an M))])),
  (h 1, .inl (cA, 16, .inl (m_lv M))), (h 2, .inl (cA, 16, .inl (m_le M))), (h 3, .inl (cA, 16, .inl (m_lw M))), (h 4, .inl (cA, 16, .inl (m_lb M))), (h 5, .inl (cA, 16, .inl (m_lh M))),
  (h 6, .inl (cA, 6, .inl (m_st M))), (h 7, .inl (cA, 6, .inl (m_sr M))), (h 8, .inl (cA, 60, .inl (m_as M))), (h 9, .inl (cA, 60, .inl (m_aa M))), (h 10, .inl (cA, 60, .inl (m_ab M))), (h 11, .inl (cA, 60, .inl (m_ah M)))]
def w1 (h : Nat → Nat) (cA : ClassId) (rf : Int32) (M : MM) : va_W := [(h 0, .inr (1, [.int rf, .int (nI (m_ln M)), .ref (h 1), .ref (h 2), .ref (h 3), .ref (h 4), .ref (h 5), .ref (h 6), .int (m_hb M), .int (nI (m_an M)), .ref (h 7), .ref (h 8), .ref (h 9), .ref (h 10)])),
  (h 1, .inl (cA, 16, .inl (m_lv M))), (h 2, .inl (cA, 16, .inl (m_le M))), (h 3, .inl (cA, 16, .inl (m_lw M))), (h 4, .inl (cA, 16, .inl (m_lb M))), (h 5, .inl (cA, 16, .inl (m_lh M))),
  (h 6, .inl (cA, 1001, .inl (m_rt M))), (h 7, .inl (cA, 60, .inl (m_as M))), (h 8, .inl (cA, 60, .inl (m_aa M))), (h 9, .inl (cA, 60, .inl (m_ab M))), (h 10, .inl (cA, 60, .inl (m_ah M)))]
/-- the bounds that keep every index in its row -/
def OKM (M : MM) : Prop := m_ln M ≤ 16 ∧ 1 ≤ m_sn M ∧ m_sn M ≤ 6 ∧ m_an M ≤ 60
-- what the parts of the calls answer
def ixL (n : Nat) (x : Int32) : Option Nat := if 0 ≤ x.toInt ∧ x.toInt < n then some x.toInt.toNat else none
def inR (x lo hi : Int32) : Bool := decide (lo ≤ x) && decide (x ≤ hi)
def psum (f : FF) : Nat → Int32
  | 0 => 0
  | k + 1 => psum f k + f k
def fd64 (x y : Int64) : Int64 := if (x ^^^ y) < 0 ∧ ¬ (x / y) * y = x then x / y - 1 else x / y
def x_th (a s : Int32) : Int32 := (fd64 (a.toInt64 * s.toInt64 + 500) 1000).toInt32
def x_sd (a f d : Int32) : Int32 := if d = 0 then 0 else (fd64 (a.toInt64 * f.toInt64) d.toInt64).toInt32
def y_th (a s : Int32) : Int32 := ((a.toInt64 * s.toInt64 + 500) / 1000).toInt32
def y_sh (a p v : Int32) : Int32 := (a.toInt64 * p.toInt64 / v.toInt64).toInt32
def x_csum (M : MM) : Int32 := psum (m_lv M) (m_ln M)
def x_progress (M : MM) : Int32 := x_sd (psum (m_lw M) (m_ln M)) 1000 (x_csum M)
def y_reached (M : MM) : Int32 := if psum (m_lv M) (m_ln M) = 0 then 0 else ((psum (m_lw M) (m_ln M)).toInt64 * 1000 / (psum (m_lv M) (m_ln M)).toInt64).toInt32
def x_best (st : FF) (p : Int32) : Nat → Nat
  | 0 => 0
  | k + 1 => if ¬ p < st (k + 1) ∧ st (x_best st p k) < st (k + 1) then k + 1 else x_best st p k
def x_rate (M : MM) : Int32 := m_sr M (x_best (m_st M) (x_progress M) (m_sn M - 1))
def y_scan (rt : FF) : Nat → Int32
  | 0 => rt 0
  | k + 1 => if rt (k + 1) = -1 then y_scan rt k else rt (k + 1)
def y_rate (M : MM) : Int32 := y_scan (m_rt M) (y_reached M).toNatClampNeg
/-- what the reference's rate needs to come to an end -/
def RTM (M : MM) : Prop := m_ln M ≤ 16 ∧ m_an M ≤ 60 ∧ (∃ k : Nat, k ≤ 1000 ∧ y_reached M = nI k) ∧ ¬ m_rt M 0 = -1
def x_hIf (M : MM) (j : Nat) (r : Int32) : Int32 := if m_hb M = 0 then x_th (m_le M j) r else m_lh M j + x_th (m_le M j - m_lb M j) r
def y_hTh (M : MM) (j : Nat) : Int32 := if m_hb M = 0 then y_th (m_le M j) (y_rate M) else m_lh M j + y_th (m_le M j - m_lb M j) (y_rate M)
def x_nsub (M : MM) (r a : Int32) : Nat → Int32
  | 0 => a
  | k + 1 => x_nsub M r a k - x_hIf M k r
def x_next (M : MM) : Int32 := x_nsub M (x_rate M) (psum (m_le M) (m_ln M) - psum (m_aa M) (m_an M)) (m_ln M)
def y_nsub (M : MM) (a : Int32) : Nat → Int32
  | 0 => a
  | k + 1 => y_nsub M a k - y_hTh M k
def y_asub (f : FF) (a : Int32) : Nat → Int32
  | 0 => a
  | k + 1 => y_asub f a k - f k
def y_amt (M : MM) : Int32 := y_asub (m_aa M) (y_nsub M (psum (m_le M) (m_ln M)) (m_ln M)) (m_an M)
def x_bill (M : MM) (r : Int32) : Nat → MM
  | 0 => M
  | k + 1 => s_lb (s_lh (x_bill M r k) (upd (m_lh (x_bill M r k)) k (x_hIf (x_bill M r k) k r))) (upd (m_lb (x_bill M r k)) k (m_le (x_bill M r k) k))
def y_bill (M : MM) : Nat → MM
  | 0 => M
  | k + 1 => s_lb (s_lh (y_bill M k) (upd (m_lh (y_bill M k)) k (y_hTh (y_bill M k) k))) (upd (m_lb (y_bill M k)) k (m_le (y_bill M k) k))
/-- the end of a closing: the application's row -/
def z_app (M : MM) (n : Nat) : MM := s_an (s_ah (s_ab (s_as M (upd (m_as M) n 0)) (upd (m_ab M) n (psum (m_lb M) (m_ln M)))) (upd (m_ah M) n (psum (m_lh M) (m_ln M)))) (n + 1)
def x_cl1 (M : MM) : MM := s_aa M (upd (m_aa M) (m_an M) (x_next M))
def y_cl1 (M : MM) : MM := s_aa M (upd (m_aa M) (m_an M) (y_amt M))
def cnt2 (f : FF) : Nat → Nat
  | 0 => 0
  | k + 1 => if f k = 2 then cnt2 f k + 1 else cnt2 f k
def y_pf (f : FF) : Nat → Nat → Nat
  | 0, i => i
  | k + 1, i => if f i = 2 then y_pf f k (i + 1) else i
def x_psum (as aa : FF) : Nat → Int32
  | 0 => 0
  | k + 1 => if as k = 0 then x_psum as aa k else x_psum as aa k + aa k
def y_psum (as aa : FF) : Nat → Int32
  | 0 => 0
  | k + 1 => y_psum as aa k + (if as k = 0 then 0 else aa k)
def x_dv (M : MM) (j : Nat) : Int32 := if m_lv M j < 1 then 1 else m_lv M j
def y_dv (M : MM) (j : Nat) : Int32 := if m_lv M j = 0 then 1 else m_lv M j
def z_ah (w d : Nat → Int32) (a b : Nat) : Bool := decide ((w b).toInt64 * (d a).toInt64 < (w a).toInt64 * (d b).toInt64) || (decide ((w a).toInt64 * (d b).toInt64 = (w b).toInt64 * (d a).toInt64) && decide (a < b))
def z_rk (w d : Nat → Int32) (j : Nat) : Nat → Nat
  | 0 => 0
  | k + 1 => if z_ah w d k j = true then z_rk w d j k + 1 else z_rk w d j k
def x_rank (M : MM) (j : Nat) : Nat := z_rk (m_lw M) (x_dv M) j (m_ln M)
def y_rank (M : MM) (j : Nat) : Nat := z_rk (m_lw M) (y_dv M) j (m_ln M)
def x_fl (M : MM) (p : Nat) : Nat → Nat → Nat
  | 0, i => i
  | k + 1, i => if x_rank M i = p then i else x_fl M p k (i + 1)
def y_fl (M : MM) (x : Int32) : Nat → Int32
  | 0 => -1
  | k + 1 => if nI (y_rank M k) = x then nI k else y_fl M x k
def x_fs (st : FF) (t : Int32) : Nat → Nat → Option Nat
  | 0, _ => none
  | k + 1, i => if st i = t then some i else x_fs st t k (i + 1)
def cntS (rt : FF) : Nat → Nat
  | 0 => 0
  | k + 1 => if rt k = -1 then cntS rt k else cntS rt k + 1
-- what the calls do: which exception of the list (0: none), the answer, the state behind
abbrev RR : Type := Nat × Int32 × MM
def o_addLine (M : MM) (v : Int32) : RR := if inR v 0 10000000 = true then (if m_ln M = 16 then (2, 0, M) else (0, nI (m_ln M), s_ln (s_lv M (upd (m_lv M) (m_ln M) v)) (m_ln M + 1))) else (1, 0, M)
def o_changeValue (M : MM) (x v : Int32) : RR := match ixL (m_ln M) x with
  | none => (1, 0, M)
  | some j => if inR v 0 10000000 = true then (if v < m_le M j then (3, 0, M) else (0, v - m_lv M j, s_lv M (upd (m_lv M) j v))) else (2, 0, M)
def x_mv (f : FF) (j n : Nat) (p w : Int32) : FF := upd (upd f n (x_sd (f j) p w)) j (upd f n (x_sd (f j) p w) j - x_sd (f j) p w)
def y_mv (f : FF) (j n : Nat) (p w : Int32) : FF := upd (upd f n (y_sh (f j) p w)) j (upd f n (y_sh (f j) p w) j - upd f n (y_sh (f j) p w) n)
def x_split (M : MM) (x p : Int32) : RR := match ixL (m_ln M) x with
  | none => (1, 0, M)
  | some j => if inR p 1 (m_lv M j - 1) = true then (if m_ln M = 16 then (3, 0, M) else
      (0, nI (m_ln M), mk (upd (upd (m_lv M) (m_ln M) p) j (m_lv M j - p)) (x_mv (m_le M) j (m_ln M) p (m_lv M j)) (x_mv (m_lw M) j (m_ln M) p (m_lv M j)) (x_mv (m_lb M) j (m_ln M) p (m_lv M j)) (x_mv (m_lh M) j (m_ln M) p (m_lv M j)) (m_ln M + 1) (m_st M) (m_sr M) (m_sn M) (m_rt M) (m_hb M) (m_as M) (m_aa M) (m_ab M) (m_ah M) (m_an M))) else (2, 0, M)
def y_split (M : MM) (x p : Int32) : RR := match ixL (m_ln M) x with
  | none => (1, 0, M)
  | some j => if inR p 1 (m_lv M j - 1) = true then (if m_ln M = 16 then (3, 0, M) else
      (0, nI (m_ln M), mk (upd (upd (m_lv M) (m_ln M) p) j (m_lv M j - p)) (y_mv (m_le M) j (m_ln M) p (m_lv M j)) (y_mv (m_lw M) j (m_ln M) p (m_lv M j)) (y_mv (m_lb M) j (m_ln M) p (m_lv M j)) (y_mv (m_lh M) j (m_ln M) p (m_lv M j)) (m_ln M + 1) (m_st M) (m_sr M) (m_sn M) (m_rt M) (m_hb M) (m_as M) (m_aa M) (m_ab M) (m_ah M) (m_an M))) else (2, 0, M)
def x_setWork (M : MM) (x s : Int32) : RR := match ixL (m_ln M) x with
  | none => (1, 0, M)
  | some j => if inR s 0 1000 = true then (if x_th (m_lv M j) s - m_lw M j < 0 then (3, 0, M) else if m_lv M j < m_le M j + (x_th (m_lv M j) s - m_lw M j) then (3, 0, M) else
      (0, x_th (m_lv M j) s - m_lw M j, s_le (s_lw M (upd (m_lw M) j (m_lw M j + (x_th (m_lv M j) s - m_lw M j)))) (upd (m_le M) j (m_le M j + (x_th (m_lv M j) s - m_lw M j))))) else (2, 0, M)
def y_setWork (M : MM) (x s : Int32) : RR := match ixL (m_ln M) x with
  | none => (1, 0, M)
  | some j => if inR s 0 1000 = true then (if y_th (m_lv M j) s < m_lw M j then (3, 0, M) else if m_lv M j - m_le M j < y_th (m_lv M j) s - m_lw M j then (3, 0, M) else
      (0, y_th (m_lv M j) s - m_lw M j, s_le (s_lw M (upd (m_lw M) j (y_th (m_lv M j) s))) (upd (m_le M) j (m_le M j + (y_th (m_lv M j) s - m_lw M j))))) else (2, 0, M)
def x_store (M : MM) (x c : Int32) : RR := match ixL (m_ln M) x with
  | none => (1, 0, M)
  | some j => if inR c 1 10000000 = true then (if m_lv M j < m_le M j + c then (3, 0, M) else (0, m_le M j + c - m_lw M j, s_le M (upd (m_le M) j (m_le M j + c)))) else (2, 0, M)
def y_store (M : MM) (x c : Int32) : RR := match ixL (m_ln M) x with
  | none => (1, 0, M)
  | some j => if inR c 1 10000000 = true then (if m_lv M j - m_le M j < c then (3, 0, M) else (0, m_le M j + c - m_lw M j, s_le M (upd (m_le M) j (m_le M j + c)))) else (2, 0, M)
def o_place (M : MM) (x c : Int32) : RR := match ixL (m_ln M) x with
  | none => (1, 0, M)
  | some j => if inR c 1 10000000 = true then (if m_le M j - m_lw M j < c then (3, 0, M) else (0, m_lw M j + c, s_lw M (upd (m_lw M) j (m_lw M j + c)))) else (2, 0, M)
def x_setStep (M : MM) (t r : Int32) : RR := if inR t 0 1000 = true then (if inR r 0 1000 = true then (match x_fs (m_st M) t (m_sn M) 0 with
    | none => if m_sn M = 6 then (2, 0, M) else (0, -1, s_sn (s_sr (s_st M (upd (m_st M) (m_sn M) t)) (upd (m_sr M) (m_sn M) r)) (m_sn M + 1))
    | some i => (0, m_sr M i, s_sr M (upd (m_sr M) i r))) else (1, 0, M)) else (1, 0, M)
def y_setStep (M : MM) (t r : Int32) : RR := if inR t 0 1000 = true then (if inR r 0 1000 = true then
    (if m_rt M t.toNatClampNeg = -1 ∧ cntS (m_rt M) 1001 = 6 then (2, 0, M) else (0, m_rt M t.toNatClampNeg, s_rt M (upd (m_rt M) t.toNatClampNeg r))) else (1, 0, M)) else (1, 0, M)
def x_dropStep (M : MM) (t : Int32) : RR := if inR t 1 1000 = true then (match x_fs (m_st M) t (m_sn M) 0 with
    | none => (2, 0, M)
    | some i => (0, m_sr M i, s_sn (s_sr (s_st M (upd (m_st M) i (m_st M (m_sn M - 1)))) (upd (m_sr M) i (m_sr M (m_sn M - 1)))) (m_sn M - 1))) else (1, 0, M)
def y_dropStep (M : MM) (t : Int32) : RR := if inR t 1 1000 = true then (if m_rt M t.toNatClampNeg = -1 then (2, 0, M) else (0, m_rt M t.toNatClampNeg, s_rt M (upd (m_rt M) t.toNatClampNeg (-1)))) else (1, 0, M)
def x_close (M : MM) : RR := if m_ln M = 0 then (1, 0, M) else if m_an M = 60 then (1, 0, M) else (0, nI (m_an M), z_app (x_bill (x_cl1 M) (x_rate (x_cl1 M)) (m_ln M)) (m_an M))
def y_close (M : MM) : RR := if m_ln M = 0 then (1, 0, M) else if m_an M = 60 then (1, 0, M) else (0, nI (m_an M), z_app (y_bill (y_cl1 M) (m_ln M)) (m_an M))
def x_pay (M : MM) (x : Int32) : RR := match ixL (m_an M) x with
  | none => (1, 0, M)
  | some j => if m_as M j = 0 then (if cnt2 (m_as M) (m_an M) < j then (2, 0, M) else (0, m_aa M j, s_as M (upd (m_as M) j 1))) else (2, 0, M)
def y_pay (M : MM) (x : Int32) : RR := match ixL (m_an M) x with
  | none => (1, 0, M)
  | some j => if m_as M j = 0 then (if y_pf (m_as M) (m_an M) 0 < j then (2, 0, M) else (0, m_aa M j, s_as M (upd (m_as M) j 1))) else (2, 0, M)
def x_waive (M : MM) (x : Int32) : RR := match ixL (m_an M) x with
  | none => (1, 0, M)
  | some j => if m_as M j = 1 then (0, nI (cnt2 (upd (m_as M) j 2) (m_an M)), s_as M (upd (m_as M) j 2)) else (2, 0, M)
def y_waive (M : MM) (x : Int32) : RR := match ixL (m_an M) x with
  | none => (1, 0, M)
  | some j => if m_as M j = 1 then (0, nI (y_pf (upd (m_as M) j 2) (m_an M) 0), s_as M (upd (m_as M) j 2)) else (2, 0, M)
/-- a row read at an index -/
def o_row (M : MM) (n : Nat) (f : FF) (x : Int32) : RR := match ixL n x with
  | none => (1, 0, M)
  | some j => (0, f j, M)
def x_lbs (M : MM) (x : Int32) : RR := match ixL (m_ln M) x with
  | none => (1, 0, M)
  | some p => (0, nI (x_fl M p (m_ln M - 1) 0), M)
def y_lbs (M : MM) (x : Int32) : RR := if y_fl M x (m_ln M) = -1 then (1, 0, M) else (0, y_fl M x (m_ln M), M)
