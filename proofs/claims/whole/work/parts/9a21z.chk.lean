/-! for a while -/
theorem CHKT_ok : CHKT := sorry
