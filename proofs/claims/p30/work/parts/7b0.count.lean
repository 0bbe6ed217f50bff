/-! count alike -/
theorem jc_count {σ τ σ1 τ1 : jf_S} {r1 r2 w : Int32} (R : JR σ τ) (T : JT σ τ) (G : JG σ τ) (p : (r1, σ1) = (x_count σ w, σ)) (q : (r2, τ1) = (m_count τ w, jf_i τ 0 0 0)) : r1 = r2 := by
  rw [show r1 = _ from congrArg Prod.fst p, show r2 = _ from congrArg Prod.fst q]
  have k : (if ((σ.1 8 2)).toInt = 0 then (-1 : Int32) else (σ.1 8 4)) = if ((τ.1 0 44)).toInt = 0 then (-1 : Int32) else (τ.1 0 48) := by
    rcases T.2.2.1 with ⟨e1, e2⟩ | ⟨t, -, hx, hm⟩
    · rw [e1, e2, if_pos (show (0 : Int32).toInt = 0 from rfl), if_pos (show (0 : Int32).toInt = 0 from rfl)]
    · rw [hx.1, hm.1, if_neg (by decide), if_neg (by decide)]
      exact Int32.toInt_inj.mp (hx.2.2.2.1.trans hm.2.2.2.1.symm)
  have kt : (σ.1 31) = (τ.1 14) := congrFun G.1 14
  unfold x_count m_count
  rw [R.1, R.2.1, G.2.1, R.2.2.2.2.1, R.2.2.2.2.2.1, R.2.2.1, R.2.2.2.2.2.2.2.2, k, kt]
def JJ6 (σ τ : jf_S) : Prop := JX σ ∧ JM τ ∧ JR σ τ ∧ JT σ τ ∧ JG σ τ

