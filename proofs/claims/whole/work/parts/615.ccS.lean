theorem cc_X2_placeFrom (l : Launch) (D : va_G) (cI cZ : ClassId) (q : Nat → Nat) (n : Nat) (il : Int32) (kn sp py bo : Nat → Int32) (fl wa : Int32) (hn : n ≤ 6) : ∀ (d k : Nat), k + d = n → ∀ (os fo sb lp fm pn : Int32) (tr fs sk ct nt : Nat → Int32) (v : Int32), v = nI k → MV l yX2_placeFrom wsX2_placeFrom (rF d) D cI cZ [.ref (q 5), .int v] (wS cI q os fl wa fo sb lp fm pn tr fs sk ct nt ++ wP cI q (nI n) il kn sp py bo) (fun u : PS => (wS cI q u.1 fl wa u.2.1 u.2.2.1 u.2.2.2.1 u.2.2.2.2.1 u.2.2.2.2.2.1 u.2.2.2.2.2.2.1 u.2.2.2.2.2.2.2.1 u.2.2.2.2.2.2.2.2.1 u.2.2.2.2.2.2.2.2.2.1 u.2.2.2.2.2.2.2.2.2.2 ++ wP cI q (nI n) il kn sp py bo)) (fun u => u = pf n il kn sp py bo fl wa d k (os, fo, sb, lp, fm, pn, tr, fs, sk, ct, nt)) := by
  intro d
  induction d with
  | zero =>
    intro k hk os fo sb lp fm pn tr fs sk ct nt v hv
    exact c_X2_placeFrom 0 k l D cI cZ q os fl wa fo sb lp fm pn tr fs sk ct nt n il kn sp py bo v hn hk (fun h => absurd h (by omega)) hv
  | succ d ih =>
    intro k hk os fo sb lp fm pn tr fs sk ct nt v hv
    exact c_X2_placeFrom (d + 1) k l D cI cZ q os fl wa fo sb lp fm pn tr fs sk ct nt n il kn sp py bo v hn hk (fun h os fo sb lp fm pn tr fs sk ct nt v hv => ih (k + 1) (by omega) os fo sb lp fm pn tr fs sk ct nt v hv) hv
