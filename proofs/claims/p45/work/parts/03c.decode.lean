/-! decode rows -/

