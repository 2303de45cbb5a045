/-! what the calls answer (2) -/
def aheadV (N M : Nat → Int32) (n : Nat) : Int32 := ppN (yrX N M n) (nvN N)
def f_worth (s : SS) (t n : Int32) : Int32 × SS := if isT s t then (if wi (nI 0) n (nI 40) then (aheadV (sN s) (upd (sN s) (112 + 7 * tn t + 5) (nI 1)) (tn n) - aheadV (sN s) (upd (sN s) (112 + 7 * tn t + 5) (nI 0)) (tn n), s) else er 1 s) else er 1 s
def f_promised (s : SS) (t y n : Int32) : Int32 × SS := if isT s t then (if wi (nI 0) y (nI 199) then (if wi (nI 0) n (nI 40) then (aheadV (sN s) (upd (sN s) (112 + 7 * tn t + 6) y) (tn n) - aheadV (sN s) (upd (sN s) (112 + 7 * tn t + 6) (-1)) (tn n), s) else er 1 s) else er 1 s) else er 1 s
def edR (N : Nat → Int32) (t y : Nat) : Nat → Int32 := upd N (16 + 4 * atN N t + 1 + 0) (nI y)
def edP (N : Nat → Int32) (t n : Nat) (y : Nat) : Bool := decide (yrX N (edR N t y) n (112 + 7 * t + 5) = nI 1)
def f_edge (s : SS) (t n : Int32) : Int32 × SS := if isT s t then (if wi (nI 0) n (nI 40) then (if sN s (112 + 7 * tn t + 5) = nI 1 then (if fsP (edP (sN s) (tn t) (tn n)) 401 0 < 401 then (nI (fsP (edP (sN s) (tn t) (tn n)) 401 0), s) else er 2 s) else er 2 s) else er 1 s) else er 1 s
def mdR (N : Nat → Int32) (a b : Nat) : Nat → Int32 := upd (upd N (48 + 8 * b + a) (nI 1)) (48 + 8 * a + b) (nI 1)
def rdS (N : Nat → Int32) (n a b : Nat) (q : Int32 × Int32) : Int32 × Int32 := if N (48 + 8 * a + b) = 0 then (if q.1 < 0 then (nI (10 * a + b), aheadV N (mdR N a b) n) else if aheadV N (mdR N a b) n ≤ q.2 then q else (nI (10 * a + b), aheadV N (mdR N a b) n)) else q
def rdI (N : Nat → Int32) (n a : Nat) (q : Int32 × Int32) : Nat → Int32 × Int32
  | 0 => q
  | j + 1 => rdS N n a (a + 1 + j) (rdI N n a q j)
def rdO (N : Nat → Int32) (n : Nat) : Nat → Int32 × Int32
  | 0 => (-1, nI 0)
  | a + 1 => rdI N n a (rdO N n a) (nvN N - (a + 1))
def f_road (s : SS) (n : Int32) : Int32 × SS := if wi (nI 0) n (nI 40) then (if 0 ≤ (rdO (sN s) (tn n) (nvN (sN s))).1 then ((rdO (sN s) (tn n) (nvN (sN s))).1, s) else er 2 s) else er 1 s
def wnX (N : Nat → Int32) (t n k : Nat) : Int32 := if k = n then (if yrX N N k (112 + 7 * t + 5) = nI 1 then nI 1 else nI 0) else nI 0
def wnL (N : Nat → Int32) (t n k : Nat) : Int32 := aheadV N (upd (yrX N N k) (112 + 7 * t + 5) (wnX N t n k)) (n - k)
def wnS (N : Nat → Int32) (t n k : Nat) (q : Int32 × Int32) : Int32 × Int32 := if q.1 < 0 then (nI k, wnL N t n k) else if wnL N t n k ≤ q.2 then q else (nI k, wnL N t n k)
def wnW (N : Nat → Int32) (t n : Nat) : Nat → Int32 × Int32
  | 0 => (-1, nI 0)
  | k + 1 => wnS N t n k (wnW N t n k)
def f_when (s : SS) (t n : Int32) : Int32 × SS := if isT s t then (if wi (nI 0) n (nI 40) then (if sN s (112 + 7 * tn t + 5) = nI 1 then ((wnW (sN s) (tn t) (tn n) (tn n + 1)).1, s) else er 3 s) else er 1 s) else er 1 s
def kpC (N : Nat → Int32) : Nat → Int32 × Nat
  | 0 => (nI 0, 0)
  | t + 1 => if N (112 + 7 * t + 5) = nI 1 ∧ (kpC N t).2 < 6 then ((kpC N t).1 ||| nI 1 <<< (nI t &&& 31), (kpC N t).2 + 1) else ((kpC N t).1 ||| nI 0, (kpC N t).2)
def kpK (N : Nat → Int32) (e : Int32) (t : Nat) : Int32 := if (e >>> (nI t &&& 31)) &&& nI 1 = nI 1 then N (112 + 7 * t + 2) else nI 0
def kpO (N : Nat → Int32) (ch e : Int32) : Nat → (Nat → Int32)
  | 0 => N
  | t + 1 => upd (kpO N ch e t) (112 + 7 * t + 5) (if (ch >>> (nI t &&& 31)) &&& nI 1 = nI 1 then b2 ((e >>> (nI t &&& 31)) &&& nI 1 = nI 1) else b2 (kpO N ch e t (112 + 7 * t + 5) = nI 1))
def kpL (N : Nat → Int32) (ch e : Int32) (n : Nat) : Int32 := aheadV N (kpO N ch e (tcN N)) n
def kpS (N : Nat → Int32) (c ch : Int32) (n : Nat) (e : Nat) (q : Int32 × Int32 × Int32) : Int32 × Int32 × Int32 := if nI e &&& (ch ^^^ (-1)) = 0 then (if c < sumF (kpK N (nI e)) (tcN N) then q else if q.1 < 0 then (nI e, kpL N ch (nI e) n, sumF (kpK N (nI e)) (tcN N)) else if q.2.1 < kpL N ch (nI e) n then (nI e, kpL N ch (nI e) n, sumF (kpK N (nI e)) (tcN N)) else if kpL N ch (nI e) n = q.2.1 then (if q.2.2 ≤ sumF (kpK N (nI e)) (tcN N) then q else (nI e, kpL N ch (nI e) n, sumF (kpK N (nI e)) (tcN N))) else q) else q
def kpF (N : Nat → Int32) (c ch : Int32) (n : Nat) : Nat → Int32 × Int32 × Int32
  | 0 => (-1, nI 0, nI 0)
  | e + 1 => kpS N c ch n e (kpF N c ch n e)
def kpR (N : Nat → Int32) (c : Int32) (n : Nat) : Int32 × Int32 × Int32 := kpF N c (kpC N (tcN N)).1 n (tn (kpC N (tcN N)).1 + 1)
def f_keep (s : SS) (c n w : Int32) : Int32 × SS := if wi (nI 0) c (nI 9999) then (if wi (nI 0) n (nI 40) then (if wi (nI 0) w (nI 1) then (if tn w = 0 then ((kpR (sN s) c (tn n)).1, s) else ((kpR (sN s) c (tn n)).2.1, s)) else er 1 s) else er 1 s) else er 1 s
/-- which village has most people of those not in the set: 0 none, v + 1 -/
def mpW (Y : Nat → Int32) (g : Int32) : Nat → Nat
  | 0 => 0
  | v + 1 => if (g >>> (nI v &&& 31)) &&& nI 1 = nI 1 then mpW Y g v else if mpW Y g v = 0 then v + 1 else if allR Y v ≤ allR Y (mpW Y g v - 1) then mpW Y g v else v + 1
def bI (b : Nat) : Int32 := if b = 0 then -1 else nI (b - 1)
/-- the set behind k places -/
def goW (Y : Nat → Int32) (nv : Nat) : Nat → Int32
  | 0 => nI 0
  | k + 1 => goW Y nv k ||| nI 1 <<< (bI (mpW Y (goW Y nv k) nv) &&& 31)
/-- wrong at place k -/
def ckP (Y A : Nat → Int32) (nv m k : Nat) : Bool := decide (m ≤ k ∨ ¬ A (232 + k) = bI (mpW Y (goW Y nv k) nv))
def ckV (A Y : Nat → Int32) (nv m : Nat) : Int32 := if fsP (ckP Y A nv m) nv 0 < nv then nI (1 + fsP (ckP Y A nv m) nv 0) else if nv < m then nI (1 + nv) else nI 0
def wtN (s : SS) : SS := wN s (upd (sN s) 4 (nI 0))
def f_check (s : SS) (n : Int32) : Int32 × SS := if wi (nI 0) n (nI 40) then (ckV (sN (wtN s)) (yrX (sN (wtN s)) (sN (wtN s)) (tn n)) (nvN (sN (wtN s))) (wlN (sN s)), wtN s) else er 1 (wtN s)
def f_count (s : SS) (w : Int32) : Int32 × SS := if wi (nI 0) w (nI 8) then ((if tn w < 3 then sN s (tn w) else if tn w = 3 then sumF (fun t => sN s (112 + 7 * t + 5)) (tcN (sN s)) else if tn w = 4 then sN s 12 else if tn w = 5 then nI (tlN (sN s)) else if tn w = 6 then nI (wlN (sN s)) else if tn w = 7 then nI (sT s).2 else sN s 5), s) else er 1 s
def zeW (Q : Nat → Int32) (b : Nat) : Nat → (Nat → Int32)
  | 0 => Q
  | k + 1 => upd (zeW Q b k) (b + k) (nI 0)
def shS (s : SS) (h : Nat) (b z : Int32) : SS := wH s (upd (sW s) h b) (upd (sZ s) h z) (zeW (sQ s) (40 * h) 40)
def f_sheet (s : SS) (h b n : Int32) : Int32 × SS := if wi (nI 0) h (nI 3) then (if b = 0 then (nI 1, shS s (tn h) b (nI 0)) else if b = nI 8 ∨ b = nI 16 ∨ b = nI 32 then (if 0 ≤ n then (if n ≤ nI 40 then (nI 1, shS s (tn h) b n) else er 1 s) else er 3 s) else er 1 s) else er 1 s
def mvA (Q C : Nat → Int32) (b : Nat) : Nat → (Nat → Int32)
  | 0 => C
  | k + 1 => upd (mvA Q C b k) k (Q (b + k))
def mvB (Q : Nat → Int32) (a b : Nat) : Nat → (Nat → Int32)
  | 0 => Q
  | k + 1 => upd (mvB Q a b k) (b + k) (Q (a + k))
def f_move (s : SS) (h i g j n : Int32) : Int32 × SS := if wi (nI 0) h (nI 3) then (if wi (nI 0) g (nI 3) then (if sW s (tn h) = 0 then er 2 s else if sW s (tn g) = 0 then er 2 s else if sW s (tn h) = sW s (tn g) then (if n < 0 then er 1 s else if i < 0 then er 1 s else if j < 0 then er 1 s else if tn i + tn n ≤ tn (sZ s (tn h)) then (if tn j + tn n ≤ tn (sZ s (tn g)) then (n, wH s (sW s) (sZ s) (mvB (sQ s) (40 * tn h + tn i) (40 * tn g + tn j) (tn n))) else er 1 s) else er 1 s) else er 5 s) else er 1 s) else er 1 s
