theorem pc8_le : ∀ b : Nat, b < 256 → pc8 b ≤ 8 := by decide +kernel
theorem cnt_step (f b c T : Nat) : cntB (f + 1) (b + 2 * c * T) = b % 2 + cntB f (b / 2 + c * T) := by
  show (b + 2 * c * T) % 2 + cntB f ((b + 2 * c * T) / 2) = _
  rw [Nat.mul_assoc]
  generalize c * T = q
  rw [show (b + 2 * q) % 2 = b % 2 from by omega, show (b + 2 * q) / 2 = b / 2 + q from by omega]
theorem cnt_8 (f b T : Nat) (hb : b < 256) : cntB (f + 8) (b + 256 * T) = pc8 b + cntB f T := by
  show cntB (f + 7 + 1) (b + 2 * 128 * T) = _
  rw [cnt_step]
  show _ + cntB (f + 6 + 1) (b / 2 + 2 * 64 * T) = _
  rw [cnt_step]
  show _ + (_ + cntB (f + 5 + 1) (b / 2 / 2 + 2 * 32 * T)) = _
  rw [cnt_step]
  show _ + (_ + (_ + cntB (f + 4 + 1) (b / 2 / 2 / 2 + 2 * 16 * T))) = _
  rw [cnt_step]
  show _ + (_ + (_ + (_ + cntB (f + 3 + 1) (b / 2 / 2 / 2 / 2 + 2 * 8 * T)))) = _
  rw [cnt_step]
  show _ + (_ + (_ + (_ + (_ + cntB (f + 2 + 1) (b / 2 / 2 / 2 / 2 / 2 + 2 * 4 * T))))) = _
  rw [cnt_step]
  show _ + (_ + (_ + (_ + (_ + (_ + cntB (f + 1 + 1) (b / 2 / 2 / 2 / 2 / 2 / 2 + 2 * 2 * T)))))) = _
  rw [cnt_step]
  show _ + (_ + (_ + (_ + (_ + (_ + (_ + cntB (f + 1) (b / 2 / 2 / 2 / 2 / 2 / 2 / 2 + 2 * 1 * T))))))) = _
  rw [cnt_step, show b / 2 / 2 / 2 / 2 / 2 / 2 / 2 / 2 + 1 * T = T from by omega]
  show _ = (b % 2 + (b / 2 % 2 + (b / 2 / 2 % 2 + (b / 2 / 2 / 2 % 2 + (b / 2 / 2 / 2 / 2 % 2 + (b / 2 / 2 / 2 / 2 / 2 % 2 + (b / 2 / 2 / 2 / 2 / 2 / 2 % 2 + (b / 2 / 2 / 2 / 2 / 2 / 2 / 2 % 2 + 0)))))))) + cntB f T
  omega
def sumB : List Nat → Nat
  | [] => 0
  | b :: t => pc8 b + sumB t
theorem cnt_l : ∀ l : List Nat, bts l → cntB (8 * l.length) (vB l) = sumB l
  | [], _ => rfl
  | b :: t, h => by
    show cntB (8 * t.length + 8) (b + 256 * vB t) = pc8 b + sumB t
    rw [cnt_8 _ _ _ (h b List.mem_cons_self), cnt_l t (fun x hx => h x (List.mem_cons_of_mem _ hx))]
