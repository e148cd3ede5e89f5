def FX_put (v : Int32) (T : List Int32) : Prop :=
  (kApp v T = 0) ∧
  (¬ ((qApp v T) ≤ 0)) ∧
  (kApp v T = 0) ∧
  (¬ ((qApp v T) ≤ 0))
def FX_two (v : Int32) (T : List Int32) : Prop :=
  (FX_put (48 + (v / 10)) T) ∧
  (FX_put (48 + (v - v / 10 * 10)) (T ++ [(48 + (v / 10))]))
def spanF (j : Int32) (z : Zs) : Int32 := qSwing j 1 z - qSwing j 2 z
def FX_span (z : Zs) : Prop := True
def FX_refuses (T : List Int32) (z : Zs) (Hs : List Zs) (s0 : Option Zs) (s1 : Option Zs) : Prop :=
  ((qAbout 20 z) = (-999002)) ∧
  ((qSwing (qAbout 16 z) 5 z) = (-999001)) ∧
  ((qAcc 7 z) = (-999002)) ∧
  (¬ s_X11_tick_k 0 = 0) ∧
  ((qTick 0 z) = (-999002)) ∧
  (¬ s_X11_tick_k 201 = 0) ∧
  ((qTick 201 z) = (-999002)) ∧
  (¬ s_X11_mode_k 3 = 0) ∧
  ((qMode 3 z) = (-999002)) ∧
  (¬ s_X11_set_k 4 1 = 0) ∧
  ((qSet 4 1 z) = (-999002)) ∧
  (¬ s_X11_set_k 5 1000 = 0) ∧
  ((qSet 5 1000 z) = (-999002)) ∧
  (¬ s_X11_set_k 6 21 = 0) ∧
  ((qSet 6 21 z) = (-999002)) ∧
  (¬ s_X11_set_k 7 100 = 0) ∧
  ((qSet 7 100 z) = (-999002)) ∧
  (¬ s_X11_set_k 8 10000 = 0) ∧
  ((qSet 8 10000 z) = (-999002)) ∧
  (¬ s_X11_set_k 11 0 = 0) ∧
  ((qSet 11 0 z) = (-999002)) ∧
  (¬ s_X11_disturb_k 501 = 0) ∧
  ((qDist 501 z) = (-999002)) ∧
  (¬ s_X11_disturb_k (-501) = 0) ∧
  ((qDist (-501) z) = (-999002)) ∧
  (¬ s_X11_discard_k (qAbout 16 z) z = 0) ∧
  ((qDisc (qAbout 16 z) z) = (-999001)) ∧
  (¬ s_X11_tryRule_k 4 z = 0) ∧
  ((qRule 4 z) = (-999001)) ∧
  ((qProp 4 3 z) = (-999001)) ∧
  ((qProp 0 3 z) = (-999002)) ∧
  ((qTol 0 z) = (-999002)) ∧
  ((qTol 21 z) = (-999002)) ∧
  ((qAhead 201 0 z) = (-999002)) ∧
  ((qAhead 0 5 z) = (-999002)) ∧
  ((qOut (-1) 0 5 z) = (-999001)) ∧
  ((qOut 0 0 0 z) = (-999002)) ∧
  ((qOut 0 1 5 z) = (-999002)) ∧
  ((qBest 0 z) = (-999002)) ∧
  ((qSettle 100 z) = (-999002)) ∧
  ((qScript 4 0 z) = (-999002)) ∧
  ((qScript 1 100000 z) = (-999002)) ∧
  ((qSim 1 61 z) = (-999002)) ∧
  (¬ s_X11_save_k 2 = 0) ∧
  ((qSave 2 z) = (-999001)) ∧
  (¬ kRes (-1) s0 s1 = 0) ∧
  ((qRest (-1) s0 s1) = (-999001)) ∧
  (¬ kApp 256 T = 0) ∧
  ((qApp 256 T) = (-999002)) ∧
  ((¬ (0 < (qAbout 18 z))) → ¬ s_X11_takeBack_k z = 0) ∧
  ((¬ (0 < (qAbout 18 z))) → (qTake z) = (-999003)) ∧
  ((¬ ((if (qAbout 17 z) = 0 then (1 : Int32) else (0 : Int32)) = 0)) → ¬ s_X11_tryRule_k 0 z = 0) ∧
  ((¬ ((if (qAbout 17 z) = 0 then (1 : Int32) else (0 : Int32)) = 0)) → (qRule 0 z) = (-999003)) ∧
  (((if (qAbout 17 z) = 0 then (1 : Int32) else (0 : Int32)) = 0) → (¬ ((qAbout 18 z) < 8)) → ¬ s_X11_tryRule_k 0 z = 0) ∧
  (((if (qAbout 17 z) = 0 then (1 : Int32) else (0 : Int32)) = 0) → (¬ ((qAbout 18 z) < 8)) → (qRule 0 z) = (-999003)) ∧
  ((¬ ((qAbout 16 z) = 0)) → (qSwing 0 5 z) = (-999002))
def FX_scripts (x : Int32) (T : List Int32) (z : Zs) (Hs : List Zs) (s0 : Option Zs) (s1 : Option Zs) : Prop :=
  ((qScript 1 10000 z) = 0) ∧
  ((qScript 1 10200 z) = (-99999)) ∧
  ((qScript 1 10201 z) = 0) ∧
  ((qScript 1 20003 z) = 0) ∧
  ((qScript 1 20002 z) = (-99999)) ∧
  ((qScript 1 30501 z) = 0) ∧
  ((qScript 1 31500 z) = (-99999)) ∧
  ((qScript 1 32000 z) = 0) ∧
  ((qScript 1 44001 z) = 0) ∧
  ((qScript 1 45999 z) = (-99999)) ∧
  ((qScript 1 46021 z) = 0) ∧
  ((qScript 1 47100 z) = 0) ∧
  ((qScript 1 49999 z) = (-99999)) ∧
  ((qScript 1 50004 z) = 0) ∧
  ((qScript 1 (50000 + (x - x / 4 * 4).toInt64) z) = (if (qAbout 17 z) ≤ 0 then (0 : Int32) else (if 8 ≤ (qAbout 18 z) then (0 : Int32) else (-99999 : Int32)))) ∧
  ((qScript 1 60000 z) = (if (qAbout 18 z) ≤ 0 then (0 : Int32) else (-99999 : Int32))) ∧
  ((qScript 1 60001 z) = 0) ∧
  ((qScript 1 (80000 + (qAbout 17 z).toInt64) z) = (-99999)) ∧
  ((qScript 1 (80001 + (qAbout 17 z).toInt64) z) = 0) ∧
  ((qScript 1 (90000 + (qAbout 18 z).toInt64) z) = (-99999)) ∧
  ((qScript 1 90009 z) = 0) ∧
  ((qScript 1 0 z) = 0) ∧
  ((qScript 1 72000 z) = 0) ∧
  ((qSim (x.toInt64 * 173) 15 z) = (qSim (x.toInt64 * 173) 15 z)) ∧
  ((¬ ((-1) < (qAbout 12 z))) → (qScript 1 70000 z) = 0) ∧
  ((¬ (0 < (qAbout 12 z))) → (¬ ((qAbout 12 z) < (-999))) → (qScript 1 (71000 - (qAbout 12 z).toInt64) z) = (-99999)) ∧
  ((¬ ((qAbout 12 z) < 0)) → (¬ (998 < (qAbout 12 z))) → (qScript 1 (70001 + (qAbout 12 z).toInt64) z) = 0) ∧
  ((¬ ((qAbout 12 z) < 0)) → (¬ (999 < (qAbout 12 z))) → (qScript 1 (70000 + (qAbout 12 z).toInt64) z) = (-99999))
def FX_alike (z : Zs) : Prop :=
  (∀ (t : Nat) (ht : t ≤ 100), (¬ ((5 * (qAbout 16 z)) ≤ (nI t))) → t < 100) ∧
  ((s_X11_middle_r 1 z) = (s_X11_middle_r 1 z)) ∧
  ((s_X11_middle_r 0 z) = (s_X11_middle_r 0 z)) ∧
  (∀ (t : Nat) (ht : t ≤ 100) (hlt : t < 100), (qSwing ((nI t) / 5) ((nI t) - (nI t) / 5 * 5) z) = (qSwing ((nI t) / 5) ((nI t) - (nI t) / 5 * 5) z)) ∧
  (∀ (t : Nat) (ht : t ≤ 20) (hlt : t < 20), (qAbout (nI t) z) = (qAbout (nI t) z)) ∧
  (∀ (t : Nat) (ht : t ≤ 20) (hlt : t < 20), (¬ (6 < (nI t))) → (qAcc (nI t) z) = (qAcc (nI t) z))
/-- the law's own reason of a swing, and how many are good, under and over the middle period -/
def rsF (z : Zs) (t : Nat) : Int32 := (if nI t = 0 then 1 else (if (100 * (sizeF (qSwing (nI t) 0 z - s_X11_middle_r 0 z))) ≤ (qAbout 7 z * s_X11_middle_r 0 z) then (if (100 * (sizeF (spanF (nI t) z - s_X11_middle_r 1 z))) ≤ (qAbout 7 z * s_X11_middle_r 1 z) then 0 else 3) else 2))
def sgG (z : Zs) : Nat → Int32
  | 0 => 0
  | t + 1 => sgG z t + (if rsF z t = 0 then 1 else 0)
def sgU (z : Zs) : Nat → Int32
  | 0 => 0
  | t + 1 => sgU z t + (if nI t ≤ 0 then 0 else (if s_X11_middle_r 0 z ≤ qSwing (nI t) 0 z then 0 else 1))
def sgO (z : Zs) : Nat → Int32
  | 0 => 0
  | t + 1 => sgO z t + (if nI t ≤ 0 then 0 else (if qSwing (nI t) 0 z ≤ s_X11_middle_r 0 z then 0 else 1))
def FX_sound (z : Zs) : Prop :=
  ((if 2 ≤ (qAbout 16 z) then (0 : Int32) else (1 : Int32)) = (if (s_X11_middle_r 0 z) = (-99999) then (1 : Int32) else (0 : Int32))) ∧
  ((if 2 ≤ (qAbout 16 z) then (0 : Int32) else (1 : Int32)) = (if (s_X11_middle_r 1 z) = (-99999) then (1 : Int32) else (0 : Int32))) ∧
  (∀ (t : Nat) (ht : t ≤ (tn (z 4 0))), ((qAbout 16 z) ≤ (nI t)) → t = (tn (z 4 0))) ∧
  (∀ (t : Nat) (ht : t ≤ (tn (z 4 0))), (¬ ((qAbout 16 z) ≤ (nI t))) → t < (tn (z 4 0))) ∧
  ((qAbout 17 z) = (sgG z (tn (z 4 0)))) ∧
  (¬ ((qAbout 16 z) < (2 * (sgU z (tn (z 4 0)))))) ∧
  (¬ ((qAbout 16 z) < (2 * (sgO z (tn (z 4 0)))))) ∧
  ((qAbout 13 z) = (((qAcc 0 z) + (qAcc 1 z)) + (qAcc 2 z))) ∧
  (¬ (((qAbout 13 z) * (qAbout 4 z)) < (qAcc 3 z))) ∧
  (¬ ((qAbout 13 z) < (qAcc 4 z))) ∧
  (¬ ((qAbout 18 z) < 0)) ∧
  (¬ (8 < (qAbout 18 z))) ∧
  (¬ (9999 < (sizeF (qAbout 15 z)))) ∧
  (¬ ((qAbout 19 z) < 0)) ∧
  (¬ ((qAbout 4 z) < (qAbout 19 z))) ∧
  ((¬ ((qAbout 11 z) = 1)) → (qAbout 14 z) = 0) ∧
  ((¬ ((qAbout 16 z) = 0)) → ¬ ((qAcc 5 z) ≤ ((qAbout 16 z) - 1))) ∧
  (∀ (t : Nat) (ht : t ≤ (tn (z 4 0))) (hlt : t < (tn (z 4 0))), (qSwing (nI t) 3 z) = (if (nI t) = 0 then (1 : Int32) else (if (100 * (sizeF ((qSwing (nI t) 0 z) - (s_X11_middle_r 0 z)))) ≤ ((qAbout 7 z) * (s_X11_middle_r 0 z)) then (if (100 * (sizeF ((spanF (nI t) z) - (s_X11_middle_r 1 z)))) ≤ ((qAbout 7 z) * (s_X11_middle_r 1 z)) then (0 : Int32) else (3 : Int32)) else (2 : Int32)))) ∧
  (∀ (t : Nat) (ht : t ≤ (tn (z 4 0))) (hlt : t < (tn (z 4 0))), ¬ ((qSwing (nI t) 0 z) ≤ 0)) ∧
  (∀ (t : Nat) (ht : t ≤ (tn (z 4 0))) (hlt : t < (tn (z 4 0))), FX_span z) ∧
  (∀ (t : Nat) (ht : t ≤ (tn (z 4 0))) (hlt : t < (tn (z 4 0))), ¬ ((spanF (nI t) z) < 0)) ∧
  (∀ (t : Nat) (ht : t ≤ (tn (z 4 0))) (hlt : t < (tn (z 4 0))), ¬ ((qAbout 13 z) < (qSwing (nI t) 4 z))) ∧
  (∀ (t : Nat) (ht : t ≤ (tn (z 4 0))) (hlt : t < (tn (z 4 0))), ((sgG z t) + (if (if (nI t) = 0 then (1 : Int32) else (if (100 * (sizeF ((qSwing (nI t) 0 z) - (s_X11_middle_r 0 z)))) ≤ ((qAbout 7 z) * (s_X11_middle_r 0 z)) then (if (100 * (sizeF ((spanF (nI t) z) - (s_X11_middle_r 1 z)))) ≤ ((qAbout 7 z) * (s_X11_middle_r 1 z)) then (0 : Int32) else (3 : Int32)) else (2 : Int32))) = 0 then (1 : Int32) else (0 : Int32))) = sgG z (t + 1)) ∧
  (∀ (t : Nat) (ht : t ≤ (tn (z 4 0))) (hlt : t < (tn (z 4 0))), ((sgU z t) + (if (nI t) ≤ 0 then (0 : Int32) else (if (s_X11_middle_r 0 z) ≤ (qSwing (nI t) 0 z) then (0 : Int32) else (1 : Int32)))) = sgU z (t + 1)) ∧
  (∀ (t : Nat) (ht : t ≤ (tn (z 4 0))) (hlt : t < (tn (z 4 0))), ((sgO z t) + (if (nI t) ≤ 0 then (0 : Int32) else (if (qSwing (nI t) 0 z) ≤ (s_X11_middle_r 0 z) then (0 : Int32) else (1 : Int32)))) = sgO z (t + 1)) ∧
  (∀ (t : Nat) (ht : t ≤ (tn (z 4 0))) (hlt : t < (tn (z 4 0))), (¬ ((nI t) = 0)) → ¬ ((qSwing (nI t) 4 z) < ((qSwing ((nI t) - 1) 4 z) + (qSwing (nI t) 0 z)))) ∧
  (∀ (t : Nat) (ht : t ≤ (tn (z 4 0))) (hlt : t < (tn (z 4 0))), (¬ ((nI t) = 0)) → ((100 * (sizeF ((qSwing (nI t) 0 z) - (s_X11_middle_r 0 z)))) ≤ ((qAbout 7 z) * (s_X11_middle_r 0 z))) → FX_span z)
/-- t ticks further -/
def tzF (z : Zs) (t : Nat) : Zs := itF s_X7_passOne_z t z
def FX_steps (z : Zs) : Prop :=
  (∀ t, TS (tzF z t)) ∧
  (∀ t, s_X11_tick_z 1 (tzF z t) = tzF z (t + 1)) ∧
  (∀ (t : Nat) (H9 : List Zs) (ht : t ≤ 12) (hlt : t < 12), ((qAbout 2 (tzF z t)) = 0) → s_X11_tick_k 1 = 0) ∧
  (∀ (t : Nat) (H9 : List Zs) (ht : t ≤ 12) (hlt : t < 12), ((qAbout 2 (tzF z t)) = 0) → TS (s_X11_tick_z 1 (tzF z t))) ∧
  (∀ (t : Nat) (H9 : List Zs) (ht : t ≤ 12) (hlt : t < 12), ((qAbout 2 (tzF z t)) = 0) → ¬ (qAbout 1 (s_X11_tick_z 1 (tzF z t))) = 0) ∧
  (∀ (t : Nat) (H9 : List Zs) (ht : t ≤ 12) (hlt : t < 12), ((qAbout 2 (tzF z t)) = 0) → (¬ ((qTick 1 (tzF z t)) = ((qAbout 12 (tzF z t)) + (if 0 ≤ (((qAbout 3 (s_X11_tick_z 1 (tzF z t))) + ((qAbout 0 (s_X11_tick_z 1 (tzF z t))) * (qAbout 19 (s_X11_tick_z 1 (tzF z t))))) - (qAbout 12 (tzF z t))) then (if ((sizeF (((qAbout 3 (s_X11_tick_z 1 (tzF z t))) + ((qAbout 0 (s_X11_tick_z 1 (tzF z t))) * (qAbout 19 (s_X11_tick_z 1 (tzF z t))))) - (qAbout 12 (tzF z t)))) / (qAbout 1 (s_X11_tick_z 1 (tzF z t)))) = 0 then (if (((qAbout 3 (s_X11_tick_z 1 (tzF z t))) + ((qAbout 0 (s_X11_tick_z 1 (tzF z t))) * (qAbout 19 (s_X11_tick_z 1 (tzF z t))))) - (qAbout 12 (tzF z t))) = 0 then ((sizeF (((qAbout 3 (s_X11_tick_z 1 (tzF z t))) + ((qAbout 0 (s_X11_tick_z 1 (tzF z t))) * (qAbout 19 (s_X11_tick_z 1 (tzF z t))))) - (qAbout 12 (tzF z t)))) / (qAbout 1 (s_X11_tick_z 1 (tzF z t)))) else (1 : Int32)) else ((sizeF (((qAbout 3 (s_X11_tick_z 1 (tzF z t))) + ((qAbout 0 (s_X11_tick_z 1 (tzF z t))) * (qAbout 19 (s_X11_tick_z 1 (tzF z t))))) - (qAbout 12 (tzF z t)))) / (qAbout 1 (s_X11_tick_z 1 (tzF z t))))) else (-(if ((sizeF (((qAbout 3 (s_X11_tick_z 1 (tzF z t))) + ((qAbout 0 (s_X11_tick_z 1 (tzF z t))) * (qAbout 19 (s_X11_tick_z 1 (tzF z t))))) - (qAbout 12 (tzF z t)))) / (qAbout 1 (s_X11_tick_z 1 (tzF z t)))) = 0 then (if (((qAbout 3 (s_X11_tick_z 1 (tzF z t))) + ((qAbout 0 (s_X11_tick_z 1 (tzF z t))) * (qAbout 19 (s_X11_tick_z 1 (tzF z t))))) - (qAbout 12 (tzF z t))) = 0 then ((sizeF (((qAbout 3 (s_X11_tick_z 1 (tzF z t))) + ((qAbout 0 (s_X11_tick_z 1 (tzF z t))) * (qAbout 19 (s_X11_tick_z 1 (tzF z t))))) - (qAbout 12 (tzF z t)))) / (qAbout 1 (s_X11_tick_z 1 (tzF z t)))) else (1 : Int32)) else ((sizeF (((qAbout 3 (s_X11_tick_z 1 (tzF z t))) + ((qAbout 0 (s_X11_tick_z 1 (tzF z t))) * (qAbout 19 (s_X11_tick_z 1 (tzF z t))))) - (qAbout 12 (tzF z t)))) / (qAbout 1 (s_X11_tick_z 1 (tzF z t)))))))))) → (sizeF (qTick 1 (tzF z t))) = 9999)
/-- sums over t ticks, as the law takes them -/
def tkO (z : Zs) : Nat → Int32
  | 0 => 0
  | t + 1 => tkO z t + qAbout 19 (tzF z (t + 1))
def tkM (z : Zs) : Nat → Int32
  | 0 => -99999
  | t + 1 => if qTick 1 (tzF z t) ≤ tkM z t then tkM z t else qTick 1 (tzF z t)
def tkA (z : Zs) : Nat → Int32
  | 0 => 0
  | t + 1 => tkA z t + sizeF (qAbout 5 (tzF z t) - qTick 1 (tzF z t))
def FX_ticks (x : Int32) (z : Zs) : Prop :=
  ((qAhead 0 0 z) = (qAbout 12 z)) ∧
  ((qAhead 0 2 z) = (-99999)) ∧
  ((qAhead 0 4 z) = 0) ∧
  ((tn (1 + (x - x / 30 * 30))) ≤ 30) ∧
  (∀ t, TS (tzF z t)) ∧
  (∀ t, s_X11_tick_z 1 (tzF z t) = tzF z (t + 1)) ∧
  (∀ (t : Nat) (ht : t ≤ (tn (1 + (x - x / 30 * 30)))), ((1 + (x - x / 30 * 30)) ≤ (nI t)) → t = (tn (1 + (x - x / 30 * 30)))) ∧
  (∀ (t : Nat) (ht : t ≤ (tn (1 + (x - x / 30 * 30)))), (¬ ((1 + (x - x / 30 * 30)) ≤ (nI t))) → t < (tn (1 + (x - x / 30 * 30)))) ∧
  ((qAbout 12 (tzF z (tn (1 + (x - x / 30 * 30))))) = (qAhead (1 + (x - x / 30 * 30)) 0 z)) ∧
  ((tkO z (tn (1 + (x - x / 30 * 30)))) = (qAhead (1 + (x - x / 30 * 30)) 1 z)) ∧
  ((tkM z (tn (1 + (x - x / 30 * 30)))) = (qAhead (1 + (x - x / 30 * 30)) 2 z)) ∧
  ((qAbout 16 (tzF z (tn (1 + (x - x / 30 * 30))))) = (qAhead (1 + (x - x / 30 * 30)) 3 z)) ∧
  ((tkA z (tn (1 + (x - x / 30 * 30)))) = (qAhead (1 + (x - x / 30 * 30)) 4 z)) ∧
  (∀ (t : Nat) (ht : t ≤ (tn (1 + (x - x / 30 * 30)))) (hlt : t < (tn (1 + (x - x / 30 * 30)))), s_X11_tick_k 1 = 0) ∧
  (∀ (t : Nat) (ht : t ≤ (tn (1 + (x - x / 30 * 30)))) (hlt : t < (tn (1 + (x - x / 30 * 30)))), TS (s_X11_tick_z 1 (tzF z t))) ∧
  (∀ (t : Nat) (ht : t ≤ (tn (1 + (x - x / 30 * 30)))) (hlt : t < (tn (1 + (x - x / 30 * 30)))), (qTick 1 (tzF z t)) = (qAbout 12 (s_X11_tick_z 1 (tzF z t)))) ∧
  (∀ (t : Nat) (ht : t ≤ (tn (1 + (x - x / 30 * 30)))) (hlt : t < (tn (1 + (x - x / 30 * 30)))), (qAcc 4 (s_X11_tick_z 1 (tzF z t))) = ((qAcc 4 (tzF z t)) + (if (qAbout 19 (s_X11_tick_z 1 (tzF z t))) = (qAbout 19 (tzF z t)) then (0 : Int32) else (1 : Int32)))) ∧
  (∀ (t : Nat) (ht : t ≤ (tn (1 + (x - x / 30 * 30)))) (hlt : t < (tn (1 + (x - x / 30 * 30)))), (qAcc 5 (s_X11_tick_z 1 (tzF z t))) = ((qAcc 5 (tzF z t)) + (if (qAbout 11 (tzF z t)) = 1 then (if (qAbout 5 (tzF z t)) ≤ (qAbout 12 (tzF z t)) then (0 : Int32) else (if (qTick 1 (tzF z t)) < (qAbout 5 (tzF z t)) then (0 : Int32) else (1 : Int32))) else (0 : Int32)))) ∧
  (∀ (t : Nat) (ht : t ≤ (tn (1 + (x - x / 30 * 30)))) (hlt : t < (tn (1 + (x - x / 30 * 30)))), FX_sound (s_X11_tick_z 1 (tzF z t))) ∧
  (∀ (t : Nat) (ht : t ≤ (tn (1 + (x - x / 30 * 30)))) (hlt : t < (tn (1 + (x - x / 30 * 30)))), ((tkO z t) + (qAbout 19 (s_X11_tick_z 1 (tzF z t)))) = tkO z (t + 1)) ∧
  (∀ (t : Nat) (ht : t ≤ (tn (1 + (x - x / 30 * 30)))) (hlt : t < (tn (1 + (x - x / 30 * 30)))), (if (qTick 1 (tzF z t)) ≤ (tkM z t) then (tkM z t) else (qTick 1 (tzF z t))) = tkM z (t + 1)) ∧
  (∀ (t : Nat) (ht : t ≤ (tn (1 + (x - x / 30 * 30)))) (hlt : t < (tn (1 + (x - x / 30 * 30)))), ((tkA z t) + (sizeF ((qAbout 5 (tzF z t)) - (qTick 1 (tzF z t))))) = tkA z (t + 1)) ∧
  (∀ (t : Nat) (ht : t ≤ (tn (1 + (x - x / 30 * 30)))) (hlt : t < (tn (1 + (x - x / 30 * 30)))), ((qAbout 11 (tzF z t)) = 2) → (¬ ((qAbout 15 (s_X11_tick_z 1 (tzF z t))) = (qAbout 15 (tzF z t)))) → ¬ ((sizeF ((qAbout 5 (tzF z t)) - (qAbout 12 (tzF z t)))) < (sizeF ((qAbout 15 (s_X11_tick_z 1 (tzF z t))) - (qAbout 15 (tzF z t)))))) ∧
  (∀ (t : Nat) (ht : t ≤ (tn (1 + (x - x / 30 * 30)))) (hlt : t < (tn (1 + (x - x / 30 * 30)))), (¬ ((if (qTick 1 (tzF z t)) ≤ (qAbout 12 (tzF z t)) then (0 : Int32) else (1 : Int32)) = 0)) → ¬ ((sizeF (((qAbout 3 (s_X11_tick_z 1 (tzF z t))) + ((qAbout 0 (s_X11_tick_z 1 (tzF z t))) * (qAbout 4 (tzF z t)))) - (qAbout 12 (tzF z t)))) < ((qTick 1 (tzF z t)) - (qAbout 12 (tzF z t))))) ∧
  (∀ (t : Nat) (ht : t ≤ (tn (1 + (x - x / 30 * 30)))) (hlt : t < (tn (1 + (x - x / 30 * 30)))), (¬ ((qAbout 11 (tzF z t)) = 2)) → (qAbout 15 (s_X11_tick_z 1 (tzF z t))) = (qAbout 15 (tzF z t))) ∧
  (∀ (t : Nat) (ht : t ≤ (tn (1 + (x - x / 30 * 30)))) (hlt : t < (tn (1 + (x - x / 30 * 30)))), ((qAbout 11 (tzF z t)) = 1) → (qAbout 19 (s_X11_tick_z 1 (tzF z t))) = (if (if (qAbout 12 (tzF z t)) < ((qAbout 5 (tzF z t)) + (qAbout 6 (tzF z t))) then (if (qAbout 12 (tzF z t)) ≤ ((qAbout 5 (tzF z t)) - (qAbout 6 (tzF z t))) then (1 : Int32) else (if (qAbout 14 (tzF z t)) = 1 then (1 : Int32) else (0 : Int32))) else (0 : Int32)) = 0 then (0 : Int32) else (qAbout 4 (tzF z t)))) ∧
  (∀ (t : Nat) (ht : t ≤ (tn (1 + (x - x / 30 * 30)))) (hlt : t < (tn (1 + (x - x / 30 * 30)))), ((qAbout 11 (tzF z t)) = 1) → (qAbout 14 (s_X11_tick_z 1 (tzF z t))) = (if (if (qAbout 12 (tzF z t)) < ((qAbout 5 (tzF z t)) + (qAbout 6 (tzF z t))) then (if (qAbout 12 (tzF z t)) ≤ ((qAbout 5 (tzF z t)) - (qAbout 6 (tzF z t))) then (1 : Int32) else (if (qAbout 14 (tzF z t)) = 1 then (1 : Int32) else (0 : Int32))) else (0 : Int32)) = 0 then (0 : Int32) else (1 : Int32))) ∧
  (∀ (t : Nat) (ht : t ≤ (tn (1 + (x - x / 30 * 30)))) (hlt : t < (tn (1 + (x - x / 30 * 30)))), ((qAbout 11 (tzF z t)) = 0) → (qAbout 19 (s_X11_tick_z 1 (tzF z t))) = 0)
def FX_hands (x : Int32) (T : List Int32) (z : Zs) (s0 : Option Zs) (s1 : Option Zs) : Prop :=
  (s_X11_save_k 0 = 0) ∧
  ((qSave 0 z) = (qAbout 13 z)) ∧
  ((if (qAbout 17 z) = 0 then (1 : Int32) else (0 : Int32)) = (if (qProp (x - x / 4 * 4) 0 z) = (-99999) then (1 : Int32) else (0 : Int32))) ∧
  ((if (qAbout 17 z) = 0 then (1 : Int32) else (0 : Int32)) = (if (qOut (x - x / 4 * 4) (1 + ((x / 4) - (x / 4) / 60 * 60)) 4 z) = (-99999) then (1 : Int32) else (0 : Int32))) ∧
  ((if (qAbout 17 z) = 0 then (1 : Int32) else (0 : Int32)) = (if (qBest (1 + ((x / 4) - (x / 4) / 60 * 60)) z) = (-99999) then (1 : Int32) else (0 : Int32))) ∧
  (¬ ((qSettle ((x / 16) - (x / 16) / 100 * 100) z) = 201)) ∧
  (s_X11_disturb_k (((x / 32) - (x / 32) / 201 * 201) - 100) = 0) ∧
  (TS (s_X11_disturb_z (((x / 32) - (x / 32) / 201 * 201) - 100) z)) ∧
  ((qDist (((x / 32) - (x / 32) / 201 * 201) - 100) z) = ((qAbout 12 z) + (((x / 32) - (x / 32) / 201 * 201) - 100))) ∧
  ((qAcc 6 (s_X11_disturb_z (((x / 32) - (x / 32) / 201 * 201) - 100) z)) = ((qAcc 6 z) + 1)) ∧
  ((qAbout 13 (s_X11_disturb_z (((x / 32) - (x / 32) / 201 * 201) - 100) z)) = (qAbout 13 z)) ∧
  (kRes 0 (some z) s1 = 0) ∧
  (TS z) ∧
  ((qRest 0 (some z) s1) = (qAbout 13 z)) ∧
  (FX_steps z) ∧
  (∀ (z_41 : Zs) (Hs_42 : List Zs), kRes 0 (some z) s1 = 0) ∧
  (∀ (z_41 : Zs) (Hs_42 : List Zs), TS z) ∧
  (∀ (z_41 : Zs) (Hs_42 : List Zs), (qRest 0 (some z) s1) = (qAbout 13 z)) ∧
  (∀ (z_41 : Zs) (Hs_42 : List Zs), ¬ kUnd [] = 0) ∧
  (∀ (z_41 : Zs) (Hs_42 : List Zs), (qUndo []) = (-999003)) ∧
  ((¬ ((qSettle ((x / 16) - (x / 16) / 100 * 100) z) = (-99999))) → ¬ (((x / 16) - (x / 16) / 100 * 100) < (sizeF ((qAhead (qSettle ((x / 16) - (x / 16) / 100 * 100) z) 0 z) - (qAbout 5 z))))) ∧
  ((¬ ((qSettle ((x / 16) - (x / 16) / 100 * 100) z) = (-99999))) → (¬ ((qSettle ((x / 16) - (x / 16) / 100 * 100) z) = 0)) → ¬ ((sizeF ((qAhead ((qSettle ((x / 16) - (x / 16) / 100 * 100) z) - 1) 0 z) - (qAbout 5 z))) ≤ ((x / 16) - (x / 16) / 100 * 100))) ∧
  (((qSettle ((x / 16) - (x / 16) / 100 * 100) z) = (-99999)) → ¬ ((sizeF ((qAhead 200 0 z) - (qAbout 5 z))) ≤ ((x / 16) - (x / 16) / 100 * 100))) ∧
  ((¬ ((qTol (1 + ((x / 8) - (x / 8) / 20 * 20)) z) = (-99999))) → s_X11_set_k 7 (qTol (1 + ((x / 8) - (x / 8) / 20 * 20)) z) = 0) ∧
  ((¬ ((qTol (1 + ((x / 8) - (x / 8) / 20 * 20)) z) = (-99999))) → TS (s_X11_set_z 7 (qTol (1 + ((x / 8) - (x / 8) / 20 * 20)) z) z)) ∧
  ((¬ ((qTol (1 + ((x / 8) - (x / 8) / 20 * 20)) z) = (-99999))) → ¬ ((qSet 7 (qTol (1 + ((x / 8) - (x / 8) / 20 * 20)) z) z) < 0)) ∧
  ((¬ ((qTol (1 + ((x / 8) - (x / 8) / 20 * 20)) z) = (-99999))) → ¬ ((qAbout 17 (s_X11_set_z 7 (qTol (1 + ((x / 8) - (x / 8) / 20 * 20)) z) z)) < (1 + ((x / 8) - (x / 8) / 20 * 20)))) ∧
  ((¬ ((qTol (1 + ((x / 8) - (x / 8) / 20 * 20)) z) = (-99999))) → ((qTol (1 + ((x / 8) - (x / 8) / 20 * 20)) z) = 0) → kRes 0 (some z) s1 = 0) ∧
  ((¬ ((qTol (1 + ((x / 8) - (x / 8) / 20 * 20)) z) = (-99999))) → ((qTol (1 + ((x / 8) - (x / 8) / 20 * 20)) z) = 0) → TS z) ∧
  ((¬ ((qTol (1 + ((x / 8) - (x / 8) / 20 * 20)) z) = (-99999))) → ((qTol (1 + ((x / 8) - (x / 8) / 20 * 20)) z) = 0) → (qRest 0 (some z) s1) = (qAbout 13 z)) ∧
  ((¬ ((qTol (1 + ((x / 8) - (x / 8) / 20 * 20)) z) = (-99999))) → (¬ ((qTol (1 + ((x / 8) - (x / 8) / 20 * 20)) z) = 0)) → s_X11_set_k 7 ((qTol (1 + ((x / 8) - (x / 8) / 20 * 20)) z) - 1) = 0) ∧
  ((¬ ((qTol (1 + ((x / 8) - (x / 8) / 20 * 20)) z) = (-99999))) → (¬ ((qTol (1 + ((x / 8) - (x / 8) / 20 * 20)) z) = 0)) → TS (s_X11_set_z 7 ((qTol (1 + ((x / 8) - (x / 8) / 20 * 20)) z) - 1) (s_X11_set_z 7 (qTol (1 + ((x / 8) - (x / 8) / 20 * 20)) z) z))) ∧
  ((¬ ((qTol (1 + ((x / 8) - (x / 8) / 20 * 20)) z) = (-99999))) → (¬ ((qTol (1 + ((x / 8) - (x / 8) / 20 * 20)) z) = 0)) → (qSet 7 ((qTol (1 + ((x / 8) - (x / 8) / 20 * 20)) z) - 1) (s_X11_set_z 7 (qTol (1 + ((x / 8) - (x / 8) / 20 * 20)) z) z)) = (qTol (1 + ((x / 8) - (x / 8) / 20 * 20)) z)) ∧
  ((¬ ((qTol (1 + ((x / 8) - (x / 8) / 20 * 20)) z) = (-99999))) → (¬ ((qTol (1 + ((x / 8) - (x / 8) / 20 * 20)) z) = 0)) → ¬ ((1 + ((x / 8) - (x / 8) / 20 * 20)) ≤ (qAbout 17 (s_X11_set_z 7 ((qTol (1 + ((x / 8) - (x / 8) / 20 * 20)) z) - 1) (s_X11_set_z 7 (qTol (1 + ((x / 8) - (x / 8) / 20 * 20)) z) z))))) ∧
  ((¬ ((qTol (1 + ((x / 8) - (x / 8) / 20 * 20)) z) = (-99999))) → (¬ ((qTol (1 + ((x / 8) - (x / 8) / 20 * 20)) z) = 0)) → kRes 0 (some z) s1 = 0) ∧
  ((¬ ((qTol (1 + ((x / 8) - (x / 8) / 20 * 20)) z) = (-99999))) → (¬ ((qTol (1 + ((x / 8) - (x / 8) / 20 * 20)) z) = 0)) → TS z) ∧
  ((¬ ((qTol (1 + ((x / 8) - (x / 8) / 20 * 20)) z) = (-99999))) → (¬ ((qTol (1 + ((x / 8) - (x / 8) / 20 * 20)) z) = 0)) → (qRest 0 (some z) s1) = (qAbout 13 z)) ∧
  (((qTol (1 + ((x / 8) - (x / 8) / 20 * 20)) z) = (-99999)) → s_X11_set_k 7 99 = 0) ∧
  (((qTol (1 + ((x / 8) - (x / 8) / 20 * 20)) z) = (-99999)) → TS (s_X11_set_z 7 99 z)) ∧
  (((qTol (1 + ((x / 8) - (x / 8) / 20 * 20)) z) = (-99999)) → ¬ ((qSet 7 99 z) < 0)) ∧
  (((qTol (1 + ((x / 8) - (x / 8) / 20 * 20)) z) = (-99999)) → ¬ ((1 + ((x / 8) - (x / 8) / 20 * 20)) ≤ (qAbout 17 (s_X11_set_z 7 99 z)))) ∧
  (((qTol (1 + ((x / 8) - (x / 8) / 20 * 20)) z) = (-99999)) → kRes 0 (some z) s1 = 0) ∧
  (((qTol (1 + ((x / 8) - (x / 8) / 20 * 20)) z) = (-99999)) → TS z) ∧
  (((qTol (1 + ((x / 8) - (x / 8) / 20 * 20)) z) = (-99999)) → (qRest 0 (some z) s1) = (qAbout 13 z)) ∧
  ((¬ ((qAbout 16 z) ≤ 0)) → ¬ (qAbout 16 z) = 0) ∧
  ((¬ ((qAbout 16 z) ≤ 0)) → s_X11_discard_k ((x / 256) - (x / 256) / (qAbout 16 z) * (qAbout 16 z)) z = 0) ∧
  ((¬ ((qAbout 16 z) ≤ 0)) → TS (s_X11_discard_z ((x / 256) - (x / 256) / (qAbout 16 z) * (qAbout 16 z)) z)) ∧
  ((¬ ((qAbout 16 z) ≤ 0)) → (qDisc ((x / 256) - (x / 256) / (qAbout 16 z) * (qAbout 16 z)) z) = (qSwing ((x / 256) - (x / 256) / (qAbout 16 z) * (qAbout 16 z)) 0 z)) ∧
  ((¬ ((qAbout 16 z) ≤ 0)) → (qAbout 16 (s_X11_discard_z ((x / 256) - (x / 256) / (qAbout 16 z) * (qAbout 16 z)) z)) = ((qAbout 16 z) - 1)) ∧
  ((¬ ((qAbout 16 z) ≤ 0)) → FX_sound (s_X11_discard_z ((x / 256) - (x / 256) / (qAbout 16 z) * (qAbout 16 z)) z)) ∧
  ((¬ ((qAbout 16 z) ≤ 0)) → kRes 0 (some z) s1 = 0) ∧
  ((¬ ((qAbout 16 z) ≤ 0)) → TS z) ∧
  ((¬ ((qAbout 16 z) ≤ 0)) → (qRest 0 (some z) s1) = (qAbout 13 z)) ∧
  ((¬ ((qAbout 16 z) ≤ 0)) → (¬ ((((x / 256) - (x / 256) / (qAbout 16 z) * (qAbout 16 z)) + 1) = (qAbout 16 z))) → (qSwing ((x / 256) - (x / 256) / (qAbout 16 z) * (qAbout 16 z)) 4 (s_X11_discard_z ((x / 256) - (x / 256) / (qAbout 16 z) * (qAbout 16 z)) z)) = (if (qAbout 16 z) ≤ (((x / 256) - (x / 256) / (qAbout 16 z) * (qAbout 16 z)) + 1) then (0 : Int32) else (qSwing (((x / 256) - (x / 256) / (qAbout 16 z) * (qAbout 16 z)) + 1) 4 z))) ∧
  ((¬ ((qAbout 17 z) ≤ 0)) → ¬ ((qProp (x - x / 4 * 4) 0 z) < 0)) ∧
  ((¬ ((qAbout 17 z) ≤ 0)) → ¬ ((qProp (x - x / 4 * 4) 1 z) < 0)) ∧
  ((¬ ((qAbout 17 z) ≤ 0)) → ¬ ((qProp (x - x / 4 * 4) 2 z) < 0)) ∧
  ((¬ ((qAbout 17 z) ≤ 0)) → ¬ (9999 < (qProp (x - x / 4 * 4) 0 z))) ∧
  ((¬ ((qAbout 17 z) ≤ 0)) → ¬ (9999 < (qProp (x - x / 4 * 4) 1 z))) ∧
  ((¬ ((qAbout 17 z) ≤ 0)) → ¬ (9999 < (qProp (x - x / 4 * 4) 2 z))) ∧
  ((¬ ((qAbout 17 z) ≤ 0)) → ¬ ((qProp 1 0 z) < (qProp 3 0 z))) ∧
  ((¬ ((qAbout 17 z) ≤ 0)) → ¬ ((qProp 0 0 z) < (qProp 1 0 z))) ∧
  ((¬ ((qAbout 17 z) ≤ 0)) → ¬ ((qProp 2 0 z) < (qProp 0 0 z))) ∧
  ((¬ ((qAbout 17 z) ≤ 0)) → (¬ (8 ≤ (qAbout 18 z))) → s_X11_tryRule_k (x - x / 4 * 4) z = 0) ∧
  ((¬ ((qAbout 17 z) ≤ 0)) → (¬ (8 ≤ (qAbout 18 z))) → TS (s_X11_tryRule_z (x - x / 4 * 4) z)) ∧
  ((¬ ((qAbout 17 z) ≤ 0)) → (¬ (8 ≤ (qAbout 18 z))) → (qRule (x - x / 4 * 4) z) = (qProp (x - x / 4 * 4) 0 z)) ∧
  ((¬ ((qAbout 17 z) ≤ 0)) → (¬ (8 ≤ (qAbout 18 z))) → (qAbout 8 (s_X11_tryRule_z (x - x / 4 * 4) z)) = (qProp (x - x / 4 * 4) 0 z)) ∧
  ((¬ ((qAbout 17 z) ≤ 0)) → (¬ (8 ≤ (qAbout 18 z))) → (qAbout 9 (s_X11_tryRule_z (x - x / 4 * 4) z)) = (qProp (x - x / 4 * 4) 1 z)) ∧
  ((¬ ((qAbout 17 z) ≤ 0)) → (¬ (8 ≤ (qAbout 18 z))) → (qAbout 10 (s_X11_tryRule_z (x - x / 4 * 4) z)) = (qProp (x - x / 4 * 4) 2 z)) ∧
  ((¬ ((qAbout 17 z) ≤ 0)) → (¬ (8 ≤ (qAbout 18 z))) → (qAbout 11 (s_X11_tryRule_z (x - x / 4 * 4) z)) = 2) ∧
  ((¬ ((qAbout 17 z) ≤ 0)) → (¬ (8 ≤ (qAbout 18 z))) → (qAbout 18 (s_X11_tryRule_z (x - x / 4 * 4) z)) = ((qAbout 18 z) + 1)) ∧
  ((¬ ((qAbout 17 z) ≤ 0)) → (¬ (8 ≤ (qAbout 18 z))) → FX_sound (s_X11_tryRule_z (x - x / 4 * 4) z)) ∧
  ((¬ ((qAbout 17 z) ≤ 0)) → (¬ (8 ≤ (qAbout 18 z))) → (qAhead (1 + ((x / 4) - (x / 4) / 60 * 60)) 4 (s_X11_tryRule_z (x - x / 4 * 4) z)) = (qOut (x - x / 4 * 4) (1 + ((x / 4) - (x / 4) / 60 * 60)) 4 z)) ∧
  ((¬ ((qAbout 17 z) ≤ 0)) → (¬ (8 ≤ (qAbout 18 z))) → s_X11_tick_k (1 + ((x / 4) - (x / 4) / 60 * 60)) = 0) ∧
  ((¬ ((qAbout 17 z) ≤ 0)) → (¬ (8 ≤ (qAbout 18 z))) → TS (s_X11_tick_z (1 + ((x / 4) - (x / 4) / 60 * 60)) (s_X11_tryRule_z (x - x / 4 * 4) z))) ∧
  ((¬ ((qAbout 17 z) ≤ 0)) → (¬ (8 ≤ (qAbout 18 z))) → (qTick (1 + ((x / 4) - (x / 4) / 60 * 60)) (s_X11_tryRule_z (x - x / 4 * 4) z)) = (qOut (x - x / 4 * 4) (1 + ((x / 4) - (x / 4) / 60 * 60)) 0 z)) ∧
  ((¬ ((qAbout 17 z) ≤ 0)) → (¬ (8 ≤ (qAbout 18 z))) → s_X11_takeBack_k (s_X11_tick_z (1 + ((x / 4) - (x / 4) / 60 * 60)) (s_X11_tryRule_z (x - x / 4 * 4) z)) = 0) ∧
  ((¬ ((qAbout 17 z) ≤ 0)) → (¬ (8 ≤ (qAbout 18 z))) → TS (s_X11_takeBack_z (s_X11_tick_z (1 + ((x / 4) - (x / 4) / 60 * 60)) (s_X11_tryRule_z (x - x / 4 * 4) z)))) ∧
  ((¬ ((qAbout 17 z) ≤ 0)) → (¬ (8 ≤ (qAbout 18 z))) → (qTake (s_X11_tick_z (1 + ((x / 4) - (x / 4) / 60 * 60)) (s_X11_tryRule_z (x - x / 4 * 4) z))) = (qAbout 18 z)) ∧
  ((¬ ((qAbout 17 z) ≤ 0)) → (¬ (8 ≤ (qAbout 18 z))) → (qAbout 8 (s_X11_takeBack_z (s_X11_tick_z (1 + ((x / 4) - (x / 4) / 60 * 60)) (s_X11_tryRule_z (x - x / 4 * 4) z)))) = (qAbout 8 z)) ∧
  ((¬ ((qAbout 17 z) ≤ 0)) → (¬ (8 ≤ (qAbout 18 z))) → (qAbout 9 (s_X11_takeBack_z (s_X11_tick_z (1 + ((x / 4) - (x / 4) / 60 * 60)) (s_X11_tryRule_z (x - x / 4 * 4) z)))) = (qAbout 9 z)) ∧
  ((¬ ((qAbout 17 z) ≤ 0)) → (¬ (8 ≤ (qAbout 18 z))) → (qAbout 10 (s_X11_takeBack_z (s_X11_tick_z (1 + ((x / 4) - (x / 4) / 60 * 60)) (s_X11_tryRule_z (x - x / 4 * 4) z)))) = (qAbout 10 z)) ∧
  ((¬ ((qAbout 17 z) ≤ 0)) → (¬ (8 ≤ (qAbout 18 z))) → (qAbout 11 (s_X11_takeBack_z (s_X11_tick_z (1 + ((x / 4) - (x / 4) / 60 * 60)) (s_X11_tryRule_z (x - x / 4 * 4) z)))) = (qAbout 11 z)) ∧
  ((¬ ((qAbout 17 z) ≤ 0)) → (¬ (8 ≤ (qAbout 18 z))) → (qAbout 14 (s_X11_takeBack_z (s_X11_tick_z (1 + ((x / 4) - (x / 4) / 60 * 60)) (s_X11_tryRule_z (x - x / 4 * 4) z)))) = (if (qAbout 11 z) = 1 then (1 : Int32) else (0 : Int32))) ∧
  ((¬ ((qAbout 17 z) ≤ 0)) → (¬ (8 ≤ (qAbout 18 z))) → FX_sound (s_X11_takeBack_z (s_X11_tick_z (1 + ((x / 4) - (x / 4) / 60 * 60)) (s_X11_tryRule_z (x - x / 4 * 4) z)))) ∧
  ((¬ ((qAbout 17 z) ≤ 0)) → (¬ (8 ≤ (qAbout 18 z))) → kRes 0 (some z) s1 = 0) ∧
  ((¬ ((qAbout 17 z) ≤ 0)) → (¬ (8 ≤ (qAbout 18 z))) → TS z) ∧
  ((¬ ((qAbout 17 z) ≤ 0)) → (¬ (8 ≤ (qAbout 18 z))) → (qRest 0 (some z) s1) = (qAbout 13 z)) ∧
  ((¬ ((qAbout 17 z) ≤ 0)) → (¬ (8 ≤ (qAbout 18 z))) → s_X11_tryRule_k (x - x / 4 * 4) z = 0) ∧
  ((¬ ((qAbout 17 z) ≤ 0)) → (¬ (8 ≤ (qAbout 18 z))) → TS (s_X11_tryRule_z (x - x / 4 * 4) z)) ∧
  ((¬ ((qAbout 17 z) ≤ 0)) → (¬ (8 ≤ (qAbout 18 z))) → (qRule (x - x / 4 * 4) z) = (qProp (x - x / 4 * 4) 0 z)) ∧
  ((¬ ((qAbout 17 z) ≤ 0)) → (¬ (8 ≤ (qAbout 18 z))) → TS (s_X11_accept_z (s_X11_tryRule_z (x - x / 4 * 4) z))) ∧
  ((¬ ((qAbout 17 z) ≤ 0)) → (¬ (8 ≤ (qAbout 18 z))) → (s_X11_accept_r (s_X11_tryRule_z (x - x / 4 * 4) z)) = ((qAbout 18 z) + 1)) ∧
  ((¬ ((qAbout 17 z) ≤ 0)) → (¬ (8 ≤ (qAbout 18 z))) → (qAbout 18 (s_X11_accept_z (s_X11_tryRule_z (x - x / 4 * 4) z))) = 0) ∧
  ((¬ ((qAbout 17 z) ≤ 0)) → (¬ (8 ≤ (qAbout 18 z))) → (qAbout 8 (s_X11_accept_z (s_X11_tryRule_z (x - x / 4 * 4) z))) = (qProp (x - x / 4 * 4) 0 z)) ∧
  ((¬ ((qAbout 17 z) ≤ 0)) → (¬ (8 ≤ (qAbout 18 z))) → ¬ s_X11_takeBack_k (s_X11_accept_z (s_X11_tryRule_z (x - x / 4 * 4) z)) = 0) ∧
  ((¬ ((qAbout 17 z) ≤ 0)) → (¬ (8 ≤ (qAbout 18 z))) → (qTake (s_X11_accept_z (s_X11_tryRule_z (x - x / 4 * 4) z))) = (-999003)) ∧
  ((¬ ((qAbout 17 z) ≤ 0)) → (¬ (8 ≤ (qAbout 18 z))) → kRes 0 (some z) s1 = 0) ∧
  ((¬ ((qAbout 17 z) ≤ 0)) → (¬ (8 ≤ (qAbout 18 z))) → TS z) ∧
  ((¬ ((qAbout 17 z) ≤ 0)) → (¬ (8 ≤ (qAbout 18 z))) → (qRest 0 (some z) s1) = (qAbout 13 z)) ∧
  ((¬ ((qAbout 17 z) ≤ 0)) → (¬ ((qOut (qBest (1 + ((x / 4) - (x / 4) / 60 * 60)) z) (1 + ((x / 4) - (x / 4) / 60 * 60)) 4 z) < (qOut (x - x / 4 * 4) (1 + ((x / 4) - (x / 4) / 60 * 60)) 4 z))) → (qOut (qBest (1 + ((x / 4) - (x / 4) / 60 * 60)) z) (1 + ((x / 4) - (x / 4) / 60 * 60)) 4 z) = (qOut (x - x / 4 * 4) (1 + ((x / 4) - (x / 4) / 60 * 60)) 4 z)) ∧
  ((¬ ((qAbout 17 z) ≤ 0)) → (¬ ((qOut (qBest (1 + ((x / 4) - (x / 4) / 60 * 60)) z) (1 + ((x / 4) - (x / 4) / 60 * 60)) 4 z) < (qOut (x - x / 4 * 4) (1 + ((x / 4) - (x / 4) / 60 * 60)) 4 z))) → ¬ ((x - x / 4 * 4) < (qBest (1 + ((x / 4) - (x / 4) / 60 * 60)) z))) ∧
  ((¬ ((qAbout 17 z) ≤ 0)) → (¬ (0 < (x - x / 4 * 4))) → (qProp (x - x / 4 * 4) 1 z) = 0) ∧
  ((¬ ((qAbout 17 z) ≤ 0)) → (¬ (1 < (x - x / 4 * 4))) → (qProp (x - x / 4 * 4) 2 z) = 0)
def act_r (x y9 : Int32) (T : List Int32) (z : Zs) (Hs : List Zs) (s0 s1 : Option Zs) : Int32 := (if (x - x / 16 * 16) = 0 then (qTick (1 + (y9 - y9 / 200 * 200)) z) else (if (x - x / 16 * 16) = 1 then (qTick (1 + (y9 - y9 / 200 * 200)) z) else (if (x - x / 16 * 16) = 2 then (qTick (1 + (y9 - y9 / 200 * 200)) z) else (if (x - x / 16 * 16) = 3 then (qTick (1 + (y9 - y9 / 200 * 200)) z) else (if (x - x / 16 * 16) = 4 then (qTick (1 + (y9 - y9 / 200 * 200)) z) else (if (x - x / 16 * 16) = 5 then (qTick (1 + (y9 - y9 / 20 * 20)) z) else (if (x - x / 16 * 16) = 6 then (qMode (if (y9 - y9 / 4 * 4) = 0 then (0 : Int32) else (if (y9 - y9 / 4 * 4) = 1 then (2 : Int32) else (1 : Int32))) z) else (if (x - x / 16 * 16) = 7 then (qSet (5 + (y9 - y9 / 6 * 6)) (if (y9 - y9 / 6 * 6) = 0 then ((y9 / 8) - (y9 / 8) / 200 * 200) else (if (y9 - y9 / 6 * 6) = 1 then ((y9 / 8) - (y9 / 8) / 21 * 21) else (if (y9 - y9 / 6 * 6) = 2 then ((y9 / 8) - (y9 / 8) / 100 * 100) else ((y9 / 8) - (y9 / 8) / 10000 * 10000)))) z) else (if (x - x / 16 * 16) = 8 then (qDist ((y9 - y9 / 161 * 161) - 80) z) else (if (x - x / 16 * 16) = 9 then (if (qAbout 16 z) ≤ 3 then (qTick (1 + (y9 - y9 / 90 * 90)) z) else (qDisc (y9 - y9 / (qAbout 16 z) * (qAbout 16 z)) z)) else (if (x - x / 16 * 16) = 10 then (qRule (y9 - y9 / 4 * 4) z) else (if (x - x / 16 * 16) = 11 then (qRule (y9 - y9 / 4 * 4) z) else (if (x - x / 16 * 16) = 12 then (qTake z) else (if (x - x / 16 * 16) = 13 then (if (y9 - y9 / 3 * 3) = 0 then (s_X11_accept_r z) else (qTick (1 + (y9 - y9 / 50 * 50)) z)) else (if (x - x / 16 * 16) = 14 then (qUndo Hs) else (if (y9 - y9 / 2 * 2) = 0 then (qSave 1 z) else (qRest 1 s0 s1)))))))))))))))))
def act_z (x y9 : Int32) (T : List Int32) (z : Zs) (Hs : List Zs) (s0 s1 : Option Zs) : Zs := (if (x - x / 16 * 16) = 0 then (if s_X11_tick_k (1 + (y9 - y9 / 200 * 200)) = 0 then (s_X11_tick_z (1 + (y9 - y9 / 200 * 200)) z) else z) else (if (x - x / 16 * 16) = 1 then (if s_X11_tick_k (1 + (y9 - y9 / 200 * 200)) = 0 then (s_X11_tick_z (1 + (y9 - y9 / 200 * 200)) z) else z) else (if (x - x / 16 * 16) = 2 then (if s_X11_tick_k (1 + (y9 - y9 / 200 * 200)) = 0 then (s_X11_tick_z (1 + (y9 - y9 / 200 * 200)) z) else z) else (if (x - x / 16 * 16) = 3 then (if s_X11_tick_k (1 + (y9 - y9 / 200 * 200)) = 0 then (s_X11_tick_z (1 + (y9 - y9 / 200 * 200)) z) else z) else (if (x - x / 16 * 16) = 4 then (if s_X11_tick_k (1 + (y9 - y9 / 200 * 200)) = 0 then (s_X11_tick_z (1 + (y9 - y9 / 200 * 200)) z) else z) else (if (x - x / 16 * 16) = 5 then (if s_X11_tick_k (1 + (y9 - y9 / 20 * 20)) = 0 then (s_X11_tick_z (1 + (y9 - y9 / 20 * 20)) z) else z) else (if (x - x / 16 * 16) = 6 then (if s_X11_mode_k (if (y9 - y9 / 4 * 4) = 0 then (0 : Int32) else (if (y9 - y9 / 4 * 4) = 1 then (2 : Int32) else (1 : Int32))) = 0 then (s_X11_mode_z (if (y9 - y9 / 4 * 4) = 0 then (0 : Int32) else (if (y9 - y9 / 4 * 4) = 1 then (2 : Int32) else (1 : Int32))) z) else z) else (if (x - x / 16 * 16) = 7 then (if s_X11_set_k (5 + (y9 - y9 / 6 * 6)) (if (y9 - y9 / 6 * 6) = 0 then ((y9 / 8) - (y9 / 8) / 200 * 200) else (if (y9 - y9 / 6 * 6) = 1 then ((y9 / 8) - (y9 / 8) / 21 * 21) else (if (y9 - y9 / 6 * 6) = 2 then ((y9 / 8) - (y9 / 8) / 100 * 100) else ((y9 / 8) - (y9 / 8) / 10000 * 10000)))) = 0 then (s_X11_set_z (5 + (y9 - y9 / 6 * 6)) (if (y9 - y9 / 6 * 6) = 0 then ((y9 / 8) - (y9 / 8) / 200 * 200) else (if (y9 - y9 / 6 * 6) = 1 then ((y9 / 8) - (y9 / 8) / 21 * 21) else (if (y9 - y9 / 6 * 6) = 2 then ((y9 / 8) - (y9 / 8) / 100 * 100) else ((y9 / 8) - (y9 / 8) / 10000 * 10000)))) z) else z) else (if (x - x / 16 * 16) = 8 then (if s_X11_disturb_k ((y9 - y9 / 161 * 161) - 80) = 0 then (s_X11_disturb_z ((y9 - y9 / 161 * 161) - 80) z) else z) else (if (x - x / 16 * 16) = 9 then (if (qAbout 16 z) ≤ 3 then (if s_X11_tick_k (1 + (y9 - y9 / 90 * 90)) = 0 then (s_X11_tick_z (1 + (y9 - y9 / 90 * 90)) z) else z) else (if s_X11_discard_k (y9 - y9 / (qAbout 16 z) * (qAbout 16 z)) z = 0 then (s_X11_discard_z (y9 - y9 / (qAbout 16 z) * (qAbout 16 z)) z) else z)) else (if (x - x / 16 * 16) = 10 then (if s_X11_tryRule_k (y9 - y9 / 4 * 4) z = 0 then (s_X11_tryRule_z (y9 - y9 / 4 * 4) z) else z) else (if (x - x / 16 * 16) = 11 then (if s_X11_tryRule_k (y9 - y9 / 4 * 4) z = 0 then (s_X11_tryRule_z (y9 - y9 / 4 * 4) z) else z) else (if (x - x / 16 * 16) = 12 then (if s_X11_takeBack_k z = 0 then (s_X11_takeBack_z z) else z) else (if (x - x / 16 * 16) = 13 then (if (y9 - y9 / 3 * 3) = 0 then (s_X11_accept_z z) else (if s_X11_tick_k (1 + (y9 - y9 / 50 * 50)) = 0 then (s_X11_tick_z (1 + (y9 - y9 / 50 * 50)) z) else z)) else (if (x - x / 16 * 16) = 14 then (if kUnd Hs = 0 then (Hs.getD 0 zI) else z) else (if (y9 - y9 / 2 * 2) = 0 then z else (if kRes 1 s0 s1 = 0 then (s1.getD zI) else z)))))))))))))))))
def act_h (x y9 : Int32) (T : List Int32) (z : Zs) (Hs : List Zs) (s0 s1 : Option Zs) : List Zs := (if (x - x / 16 * 16) = 0 then (if s_X11_tick_k (1 + (y9 - y9 / 200 * 200)) = 0 then (hpu z Hs) else Hs) else (if (x - x / 16 * 16) = 1 then (if s_X11_tick_k (1 + (y9 - y9 / 200 * 200)) = 0 then (hpu z Hs) else Hs) else (if (x - x / 16 * 16) = 2 then (if s_X11_tick_k (1 + (y9 - y9 / 200 * 200)) = 0 then (hpu z Hs) else Hs) else (if (x - x / 16 * 16) = 3 then (if s_X11_tick_k (1 + (y9 - y9 / 200 * 200)) = 0 then (hpu z Hs) else Hs) else (if (x - x / 16 * 16) = 4 then (if s_X11_tick_k (1 + (y9 - y9 / 200 * 200)) = 0 then (hpu z Hs) else Hs) else (if (x - x / 16 * 16) = 5 then (if s_X11_tick_k (1 + (y9 - y9 / 20 * 20)) = 0 then (hpu z Hs) else Hs) else (if (x - x / 16 * 16) = 6 then (if s_X11_mode_k (if (y9 - y9 / 4 * 4) = 0 then (0 : Int32) else (if (y9 - y9 / 4 * 4) = 1 then (2 : Int32) else (1 : Int32))) = 0 then (hpu z Hs) else Hs) else (if (x - x / 16 * 16) = 7 then (if s_X11_set_k (5 + (y9 - y9 / 6 * 6)) (if (y9 - y9 / 6 * 6) = 0 then ((y9 / 8) - (y9 / 8) / 200 * 200) else (if (y9 - y9 / 6 * 6) = 1 then ((y9 / 8) - (y9 / 8) / 21 * 21) else (if (y9 - y9 / 6 * 6) = 2 then ((y9 / 8) - (y9 / 8) / 100 * 100) else ((y9 / 8) - (y9 / 8) / 10000 * 10000)))) = 0 then (hpu z Hs) else Hs) else (if (x - x / 16 * 16) = 8 then (if s_X11_disturb_k ((y9 - y9 / 161 * 161) - 80) = 0 then (hpu z Hs) else Hs) else (if (x - x / 16 * 16) = 9 then (if (qAbout 16 z) ≤ 3 then (if s_X11_tick_k (1 + (y9 - y9 / 90 * 90)) = 0 then (hpu z Hs) else Hs) else (if s_X11_discard_k (y9 - y9 / (qAbout 16 z) * (qAbout 16 z)) z = 0 then (hpu z Hs) else Hs)) else (if (x - x / 16 * 16) = 10 then (if s_X11_tryRule_k (y9 - y9 / 4 * 4) z = 0 then (hpu z Hs) else Hs) else (if (x - x / 16 * 16) = 11 then (if s_X11_tryRule_k (y9 - y9 / 4 * 4) z = 0 then (hpu z Hs) else Hs) else (if (x - x / 16 * 16) = 12 then (if s_X11_takeBack_k z = 0 then (hpu z Hs) else Hs) else (if (x - x / 16 * 16) = 13 then (if (y9 - y9 / 3 * 3) = 0 then (hpu z Hs) else (if s_X11_tick_k (1 + (y9 - y9 / 50 * 50)) = 0 then (hpu z Hs) else Hs)) else (if (x - x / 16 * 16) = 14 then (if kUnd Hs = 0 then Hs.tail else Hs) else (if (y9 - y9 / 2 * 2) = 0 then Hs else (if kRes 1 s0 s1 = 0 then [] else Hs)))))))))))))))))
def act_0 (x y9 : Int32) (T : List Int32) (z : Zs) (Hs : List Zs) (s0 s1 : Option Zs) : Option Zs := s0
def act_1 (x y9 : Int32) (T : List Int32) (z : Zs) (Hs : List Zs) (s0 s1 : Option Zs) : Option Zs := (if (x - x / 16 * 16) = 0 then s1 else (if (x - x / 16 * 16) = 1 then s1 else (if (x - x / 16 * 16) = 2 then s1 else (if (x - x / 16 * 16) = 3 then s1 else (if (x - x / 16 * 16) = 4 then s1 else (if (x - x / 16 * 16) = 5 then s1 else (if (x - x / 16 * 16) = 6 then s1 else (if (x - x / 16 * 16) = 7 then s1 else (if (x - x / 16 * 16) = 8 then s1 else (if (x - x / 16 * 16) = 9 then s1 else (if (x - x / 16 * 16) = 10 then s1 else (if (x - x / 16 * 16) = 11 then s1 else (if (x - x / 16 * 16) = 12 then s1 else (if (x - x / 16 * 16) = 13 then s1 else (if (x - x / 16 * 16) = 14 then s1 else (if (y9 - y9 / 2 * 2) = 0 then (if s_X11_save_k 1 = 0 then (some z) else s1) else s1))))))))))))))))
def FX_act (x : Int32) (y9 : Int32) (T : List Int32) (z : Zs) (Hs : List Zs) (s0 : Option Zs) (s1 : Option Zs) : Prop :=
  ((¬ ((x - x / 16 * 16) = 0)) → (¬ ((x - x / 16 * 16) = 1)) → (¬ ((x - x / 16 * 16) = 2)) → (¬ ((x - x / 16 * 16) = 3)) → (¬ ((x - x / 16 * 16) = 4)) → (¬ ((x - x / 16 * 16) = 5)) → (¬ ((x - x / 16 * 16) = 6)) → (¬ ((x - x / 16 * 16) = 7)) → (¬ ((x - x / 16 * 16) = 8)) → ((x - x / 16 * 16) = 9) → (¬ ((qAbout 16 z) ≤ 3)) → ¬ (qAbout 16 z) = 0)
