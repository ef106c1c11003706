/-! all pure statements proved -/
